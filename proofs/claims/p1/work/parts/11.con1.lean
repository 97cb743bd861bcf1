theorem dX7_checkRange_0 : decode cX7_checkRange 0 = .ok (.iload_n 1, 1) := by decide +kernel
theorem dX7_checkRange_1 : decode cX7_checkRange 1 = .ok (.iload_n 2, 1) := by decide +kernel
theorem dX7_checkRange_2 : decode cX7_checkRange 2 = .ok (.if_icmp .lt 8, 3) := by decide +kernel
theorem dX7_checkRange_10 : decode cX7_checkRange 10 = .ok (.new 95, 3) := by decide +kernel
theorem dX7_checkRange_13 : decode cX7_checkRange 13 = .ok (.dup, 1) := by decide +kernel
theorem dX7_checkRange_14 : decode cX7_checkRange 14 = .ok (.ldc_w 362, 3) := by decide +kernel
theorem dX7_checkRange_17 : decode cX7_checkRange 17 = .ok (.invokespecial 99, 3) := by decide +kernel
theorem dX7_checkRange_20 : decode cX7_checkRange 20 = .ok (.athrow, 1) := by decide +kernel
theorem dX7_checkRange_5 : decode cX7_checkRange 5 = .ok (.iload_n 1, 1) := by decide +kernel
theorem dX7_checkRange_6 : decode cX7_checkRange 6 = .ok (.iload_n 3, 1) := by decide +kernel
theorem dX7_checkRange_7 : decode cX7_checkRange 7 = .ok (.if_icmp .le 14, 3) := by decide +kernel
theorem dX7_checkRange_21 : decode cX7_checkRange 21 = .ok (.return_, 1) := by decide +kernel
set_option maxHeartbeats 4000000 in
set_option maxRecDepth 100000 in
theorem k_X7_checkRange (l : Launch) (hl9 : l.stackTraces = false) (D : va_G) (cy : Nat → ClassId) (h1 : Nat) (p0 : Int32) (p1 : Int32) (p2 : Int32) : vx_Met l yX7_checkRange wsX7_checkRange ({ frames := 6, cells := 1, slots := 6, locals := 82 }) (kRX D cy [.ref h1, .int p0, .int p1, .int p2] []) (va_Qv (fun (_ : Unit) => (p1.toInt ≤ p0.toInt ∧ p0.toInt ≤ p2.toInt)) (fun (_ : Unit) (_ : State) => True) (fun _ : Nat => False)) (vx_X (fun _ : Unit => True) (fun (E : String) (_ : Unit) (_ : State) => (E = "java/lang/IllegalArgumentException" ∧ ¬ ((p1.toInt ≤ p0.toInt ∧ p0.toInt ≤ p2.toInt)))) (fun _ : Nat => False)) 1 6 (fun _ : Nat => False) := by
  refine vx_ofW (cc := cX7_checkRange) (maxL := 4) (ret := none) (by decide) rfl ?_
  intro p e s m args below meth c s₁ B hml ht9 hv
  obtain ⟨rfl, hP, hK, hE⟩ := hv
  have hx := B.exec
  have hb := B.bytes
  have hr := B.returns
  have hts := atoms_spec (ws := wsX7_checkRange) B.pre
  have hown : s.vm.findClass RX7 = some m.cls := findClass_of_methodNamed B.named
  have hlocks := B.notSynchronized
  have hS : va_S (fun _ : Nat => False) s.heap s.heap [] := va_S.rf
  have hP : va_P D vwCl [] s.heap := hP
  have hl := lv_entry ([.ref h1, .int p0, .int p1, .int p2]) (n := 4) (Nat.le_of_ble_eq_true rfl)
  rw [lg_entry_eq]
  generalize (lg_sl ([.ref h1, .int p0, .int p1, .int p2]) ++ List.replicate (4 - (lg_sl ([.ref h1, .int p0, .int p1, .int p2])).length) Slot.unset).toArray = ls at hl ⊢
  have hl : lv_has ls 4 [(0, .ref h1), (1, .int p0), (2, .int p1), (3, .int p2)] := hl
  refine lv_iload_n hx hb dX7_checkRange_0 rfl (lv_at hl 1 rfl) ?_
  refine lv_iload_n hx hb dX7_checkRange_1 rfl (lv_at hl 2 rfl) ?_
  refine lv_icmp_lt (tgt := 10) hx hb dX7_checkRange_2 (by decide) (fun c_1 => ?_) (fun c_1 => ?_)
  · have f_2 : p0.toInt < p1.toInt := kx_lt c_1
    obtain ⟨sa9, hsa9⟩ := hE.2.1 (362, "a number is out of range") (by decide +kernel)
    exact vx_throwSW (own := RX7) (cls := "java/lang/IllegalArgumentException") (text := "a number is out of range") (names := ["java/lang/RuntimeException", "java/lang/Exception"]) (A := (fun _ : Nat => False)) hx hb hl9 hown (by decide +kernel) (by decide +kernel) (hts (.classLink RX7 95 "java/lang/IllegalArgumentException") (List.mem_cons_of_mem _ (List.mem_append_left _ (List.mem_of_getElem? (i := 0) rfl)))) (hts (.initialized "java/lang/IllegalArgumentException") (List.mem_cons_of_mem _ (List.mem_append_left _ (List.mem_of_getElem? (i := 1) rfl)))) hsa9 (ex_hat hE (fun w h => hts w (List.mem_cons_of_mem _ (List.mem_append_right _ h))) (by decide +kernel) (by decide +kernel)) (by decide +kernel) hE.1.1 hE.1.2 hS (by rw [hml]; exact hl.1) dX7_checkRange_10 dX7_checkRange_13 dX7_checkRange_14 dX7_checkRange_17 dX7_checkRange_20 (fun x hx => (ht9 x hx).elim) (Nat.le_of_ble_eq_true rfl) (Nat.le_of_ble_eq_true rfl) (Nat.le_of_ble_eq_true rfl) (Nat.le_of_ble_eq_true rfl) hlocks (fun t hal hz hk => ⟨(), trivial, (⟨rfl, (by omega)⟩), kx_thr hS hz hk⟩) hS.2.2 (Nat.le_of_ble_eq_true rfl) (Nat.le_of_ble_eq_true rfl)
  · have f_3 : p1.toInt ≤ p0.toInt := kx_nlt c_1
    refine lv_iload_n hx hb dX7_checkRange_5 rfl (lv_at hl 1 rfl) ?_
    refine lv_iload_n hx hb dX7_checkRange_6 rfl (lv_at hl 3 rfl) ?_
    refine lv_icmp_le (tgt := 21) hx hb dX7_checkRange_7 (by decide) (fun c_4 => ?_) (fun c_4 => ?_)
    · have f_5 : p0.toInt ≤ p2.toInt := kx_le c_4
      refine vx_ret ?_
      refine W.widen (k := 1) (n := 6) (Nat.le_of_ble_eq_true rfl) (Nat.le_of_ble_eq_true rfl) ?_
      exact W.vret hx hb hr (fun t ht hW => ⟨⟨(), rfl, (by omega), trivial⟩, hS.F ht⟩) hS.2.2 dX7_checkRange_21
    · have f_6 : p2.toInt < p0.toInt := kx_nle c_4
      obtain ⟨sa9, hsa9⟩ := hE.2.1 (362, "a number is out of range") (by decide +kernel)
      exact vx_throwSW (own := RX7) (cls := "java/lang/IllegalArgumentException") (text := "a number is out of range") (names := ["java/lang/RuntimeException", "java/lang/Exception"]) (A := (fun _ : Nat => False)) hx hb hl9 hown (by decide +kernel) (by decide +kernel) (hts (.classLink RX7 95 "java/lang/IllegalArgumentException") (List.mem_cons_of_mem _ (List.mem_append_left _ (List.mem_of_getElem? (i := 0) rfl)))) (hts (.initialized "java/lang/IllegalArgumentException") (List.mem_cons_of_mem _ (List.mem_append_left _ (List.mem_of_getElem? (i := 1) rfl)))) hsa9 (ex_hat hE (fun w h => hts w (List.mem_cons_of_mem _ (List.mem_append_right _ h))) (by decide +kernel) (by decide +kernel)) (by decide +kernel) hE.1.1 hE.1.2 hS (by rw [hml]; exact hl.1) dX7_checkRange_10 dX7_checkRange_13 dX7_checkRange_14 dX7_checkRange_17 dX7_checkRange_20 (fun x hx => (ht9 x hx).elim) (Nat.le_of_ble_eq_true rfl) (Nat.le_of_ble_eq_true rfl) (Nat.le_of_ble_eq_true rfl) (Nat.le_of_ble_eq_true rfl) hlocks (fun t hal hz hk => ⟨(), trivial, (⟨rfl, (by omega)⟩), kx_thr hS hz hk⟩) hS.2.2 (Nat.le_of_ble_eq_true rfl) (Nat.le_of_ble_eq_true rfl)
theorem dX7_checkNumbers_0 : decode cX7_checkNumbers 0 = .ok (.iload_n 1, 1) := by decide +kernel
theorem dX7_checkNumbers_1 : decode cX7_checkNumbers 1 = .ok (.bipush 99, 2) := by decide +kernel
theorem dX7_checkNumbers_3 : decode cX7_checkNumbers 3 = .ok (.if_icmp .eq 32, 3) := by decide +kernel
theorem dX7_checkNumbers_35 : decode cX7_checkNumbers 35 = .ok (.aload_n 0, 1) := by decide +kernel
theorem dX7_checkNumbers_36 : decode cX7_checkNumbers 36 = .ok (.iload_n 2, 1) := by decide +kernel
theorem dX7_checkNumbers_37 : decode cX7_checkNumbers 37 = .ok (.iconst 0, 1) := by decide +kernel
theorem dX7_checkNumbers_38 : decode cX7_checkNumbers 38 = .ok (.bipush 20, 2) := by decide +kernel
theorem dX7_checkNumbers_40 : decode cX7_checkNumbers 40 = .ok (.invokevirtual 174, 3) := by decide +kernel
set_option maxRecDepth 20000 in
theorem ggX7_checkNumbers_X7_checkRange : GoodIn wsX7_checkNumbers wsX7_checkRange := goodIn_ca (goodIn_r _ [7, 1, 2] (by decide +kernel) (by decide +kernel)) (goodIn_sub (fun _ h => List.mem_cons_of_mem _ (List.mem_append_right _ h)) (by decide +kernel))
set_option maxRecDepth 20000 in
theorem gX7_checkNumbers_X7_checkRange : GoodIn wsX7_checkNumbers (wsV RX7 174 RX7 yX7_checkRange wsX7_checkRange) := goodIn_app (goodIn_of _ (by decide +kernel)) ggX7_checkNumbers_X7_checkRange
theorem dX7_checkNumbers_43 : decode cX7_checkNumbers 43 = .ok (.aload_n 0, 1) := by decide +kernel
theorem dX7_checkNumbers_44 : decode cX7_checkNumbers 44 = .ok (.iload_n 3, 1) := by decide +kernel
theorem dX7_checkNumbers_45 : decode cX7_checkNumbers 45 = .ok (.iconst 0, 1) := by decide +kernel
theorem dX7_checkNumbers_46 : decode cX7_checkNumbers 46 = .ok (.sipush 999, 3) := by decide +kernel
theorem dX7_checkNumbers_49 : decode cX7_checkNumbers 49 = .ok (.invokevirtual 174, 3) := by decide +kernel
theorem dX7_checkNumbers_52 : decode cX7_checkNumbers 52 = .ok (.return_, 1) := by decide +kernel
theorem dX7_checkNumbers_6 : decode cX7_checkNumbers 6 = .ok (.iload_n 1, 1) := by decide +kernel
theorem dX7_checkNumbers_7 : decode cX7_checkNumbers 7 = .ok (.bipush 108, 2) := by decide +kernel
theorem dX7_checkNumbers_9 : decode cX7_checkNumbers 9 = .ok (.if_icmp .eq 26, 3) := by decide +kernel
theorem dX7_checkNumbers_12 : decode cX7_checkNumbers 12 = .ok (.iload_n 1, 1) := by decide +kernel
theorem dX7_checkNumbers_13 : decode cX7_checkNumbers 13 = .ok (.bipush 113, 2) := by decide +kernel
theorem dX7_checkNumbers_15 : decode cX7_checkNumbers 15 = .ok (.if_icmp .eq 20, 3) := by decide +kernel
theorem dX7_checkNumbers_18 : decode cX7_checkNumbers 18 = .ok (.iload_n 1, 1) := by decide +kernel
theorem dX7_checkNumbers_19 : decode cX7_checkNumbers 19 = .ok (.bipush 115, 2) := by decide +kernel
theorem dX7_checkNumbers_21 : decode cX7_checkNumbers 21 = .ok (.if_icmp .eq 14, 3) := by decide +kernel
theorem dX7_checkNumbers_24 : decode cX7_checkNumbers 24 = .ok (.new 95, 3) := by decide +kernel
theorem dX7_checkNumbers_27 : decode cX7_checkNumbers 27 = .ok (.dup, 1) := by decide +kernel
theorem dX7_checkNumbers_28 : decode cX7_checkNumbers 28 = .ok (.ldc_w 364, 3) := by decide +kernel
theorem dX7_checkNumbers_31 : decode cX7_checkNumbers 31 = .ok (.invokespecial 99, 3) := by decide +kernel
theorem dX7_checkNumbers_34 : decode cX7_checkNumbers 34 = .ok (.athrow, 1) := by decide +kernel
set_option maxHeartbeats 4000000 in
set_option maxRecDepth 100000 in
theorem k_X7_checkNumbers (l : Launch) (hl9 : l.stackTraces = false) (D : va_G) (cy : Nat → ClassId) (h1 : Nat) (p0 : Int32) (p1 : Int32) (p2 : Int32) (x2 : Value) (x3 : Value) (x4 : Value) (x5 : Value) (x6 : Value) (x7 : Value) (x8 : Value) : vx_Met l yX7_checkNumbers wsX7_checkNumbers ({ frames := 7, cells := 2, slots := 12, locals := 105 }) (kRX D cy [.ref h1, .int p0, .int p1, .int p2] [(h1, .inr (9, [x2, x3, x4, x5, x6, x7, x8]))]) (va_Qv (fun (_ : Unit) => ((p0.toInt = (99 : Int) ∨ p0.toInt = (108 : Int) ∨ p0.toInt = (113 : Int) ∨ p0.toInt = (115 : Int)) ∧ ((0 : Int) ≤ p1.toInt ∧ p1.toInt ≤ (20 : Int)) ∧ ((0 : Int) ≤ p2.toInt ∧ p2.toInt ≤ (999 : Int)))) (fun (_ : Unit) (_ : State) => True) (fun _ : Nat => False)) (vx_X (fun _ : Unit => True) (fun (E : String) (_ : Unit) (_ : State) => (E = "java/lang/IllegalArgumentException" ∧ ¬ (((p0.toInt = (99 : Int) ∨ p0.toInt = (108 : Int) ∨ p0.toInt = (113 : Int) ∨ p0.toInt = (115 : Int)) ∧ ((0 : Int) ≤ p1.toInt ∧ p1.toInt ≤ (20 : Int)) ∧ ((0 : Int) ≤ p2.toInt ∧ p2.toInt ≤ (999 : Int)))))) (fun _ : Nat => False)) 2 12 (fun _ : Nat => False) := by
  refine vx_ofW (cc := cX7_checkNumbers) (maxL := 4) (ret := none) (by decide) rfl ?_
  intro p e s m args below meth c s₁ B hml ht9 hv
  obtain ⟨rfl, hP, hK, hE⟩ := hv
  have hx := B.exec
  have hb := B.bytes
  have hr := B.returns
  have hts := atoms_spec (ws := wsX7_checkNumbers) B.pre
  have hown : s.vm.findClass RX7 = some m.cls := findClass_of_methodNamed B.named
  have hlocks := B.notSynchronized
  have hS : va_S (fun _ : Nat => False) s.heap s.heap [] := va_S.rf
  have hP : va_P D vwCl [(h1, .inr (9, [x2, x3, x4, x5, x6, x7, x8]))] s.heap := hP
  have hl := lv_entry ([.ref h1, .int p0, .int p1, .int p2]) (n := 4) (Nat.le_of_ble_eq_true rfl)
  rw [lg_entry_eq]
  generalize (lg_sl ([.ref h1, .int p0, .int p1, .int p2]) ++ List.replicate (4 - (lg_sl ([.ref h1, .int p0, .int p1, .int p2])).length) Slot.unset).toArray = ls at hl ⊢
  have hl : lv_has ls 4 [(0, .ref h1), (1, .int p0), (2, .int p1), (3, .int p2)] := hl
  refine lv_iload_n hx hb dX7_checkNumbers_0 rfl (lv_at hl 1 rfl) ?_
  refine lv_bipush (v := 99) hx hb dX7_checkNumbers_1 (by decide) ?_
  refine lv_icmp_eq (tgt := 35) hx hb dX7_checkNumbers_3 (by decide) (fun c_1 => ?_) (fun c_1 => ?_)
  · have f_2 : p0.toInt = (99 : Int) := kx_eq c_1
    refine lv_aload_n hx hb dX7_checkNumbers_35 rfl (lv_at hl 0 rfl) ?_
    refine lv_iload_n hx hb dX7_checkNumbers_36 rfl (lv_at hl 2 rfl) ?_
    refine lv_iconst (v := 0) hx hb dX7_checkNumbers_37 (by decide) ?_
    refine lv_bipush (v := 20) hx hb dX7_checkNumbers_38 (by decide) ?_
    have hPc := hP.sub (ws' := []) [] rfl
    refine vx_callv (vx_runV (As := [.int p1, .int 0, .int 20]) (rest := []) ⟨hx, hb, hml, hown, hts⟩ (k_X7_checkRange l hl9 D cy h1 p1 0 20) (cwV 3 hts gX7_checkNumbers_X7_checkRange rfl rfl rfl (by decide +kernel) ⟨(Nat.le_of_ble_eq_true rfl), (Nat.le_of_ble_eq_true rfl)⟩) ⟨kRX_fb, va_recv hK hP (ci := 9) (q0 := 0) rfl rfl, (kRX_go hPc hK hE hS)⟩ rfl rfl hl.1 rfl (lv_room (Nat.le_of_ble_eq_true rfl)) dX7_checkNumbers_40 ⟨(Nat.le_of_ble_eq_true rfl), (Nat.le_of_ble_eq_true rfl)⟩) hS (fun _ _ h => h.elim) (fun _ h => h.elim) (fun _ _ h => h.elim) (fun E9 ce9 q9 u t H locs ht hvm hw hB hz1 hk1 hS hce hcv hcl => ?_) (fun u t H locs ht hvm hw hB hz1 hk1 hS => ?_)
    · obtain ⟨rfl, hB⟩ := hB
      have f_3 : ¬ (((0 : Int) ≤ p1.toInt ∧ p1.toInt ≤ (20 : Int))) := hB
      exact vx_out (fun x hx => (ht9 x hx).elim) hlocks hce hcv hcl (fun t ht _ => ⟨(), trivial, (⟨rfl, (by omega)⟩), hS.F ht⟩) hS.2.2 (Nat.le_of_ble_eq_true rfl) (Nat.le_of_ble_eq_true rfl)
    · have hP := kx_kept hP hk1
      have f_4 : ((0 : Int) ≤ p1.toInt ∧ p1.toInt ≤ (20 : Int)) := hw
      refine lv_aload_n hx hb dX7_checkNumbers_43 rfl (lv_at hl 0 rfl) ?_
      refine lv_iload_n hx hb dX7_checkNumbers_44 rfl (lv_at hl 3 rfl) ?_
      refine lv_iconst (v := 0) hx hb dX7_checkNumbers_45 (by decide) ?_
      refine lv_sipush (v := 999) hx hb dX7_checkNumbers_46 (by decide) ?_
      have hPc := hP.sub (ws' := []) [] rfl
      refine vx_callv (vx_runV (As := [.int p2, .int 0, .int 999]) (rest := []) ⟨hx, hb, hml, hown, hts⟩ (k_X7_checkRange l hl9 D cy h1 p2 0 999) (cwV 3 hts gX7_checkNumbers_X7_checkRange rfl rfl rfl (by decide +kernel) ⟨(Nat.le_of_ble_eq_true rfl), (Nat.le_of_ble_eq_true rfl)⟩) ⟨kRX_fb, va_recv hK hP (ci := 9) (q0 := 0) rfl rfl, (kRX_go hPc hK hE hS)⟩ rfl rfl hl.1 rfl (lv_room (Nat.le_of_ble_eq_true rfl)) dX7_checkNumbers_49 ⟨(Nat.le_of_ble_eq_true rfl), (Nat.le_of_ble_eq_true rfl)⟩) hS (fun _ _ h => h.elim) (fun _ h => h.elim) (fun _ _ h => h.elim) (fun E9 ce9 q9 u t H locs ht hvm hw hB hz1 hk1 hS hce hcv hcl => ?_) (fun u t H locs ht hvm hw hB hz1 hk1 hS => ?_)
      · obtain ⟨rfl, hB⟩ := hB
        have f_5 : ¬ (((0 : Int) ≤ p2.toInt ∧ p2.toInt ≤ (999 : Int))) := hB
        exact vx_out (fun x hx => (ht9 x hx).elim) hlocks hce hcv hcl (fun t ht _ => ⟨(), trivial, (⟨rfl, (by omega)⟩), hS.F ht⟩) hS.2.2 (Nat.le_of_ble_eq_true rfl) (Nat.le_of_ble_eq_true rfl)
      · have hP := kx_kept hP hk1
        have f_6 : ((0 : Int) ≤ p2.toInt ∧ p2.toInt ≤ (999 : Int)) := hw
        refine vx_ret ?_
        refine W.widen (k := 2) (n := 12) (Nat.le_of_ble_eq_true rfl) (Nat.le_of_ble_eq_true rfl) ?_
        exact W.vret hx hb hr (fun t ht hW => ⟨⟨(), rfl, (by omega), trivial⟩, hS.F ht⟩) hS.2.2 dX7_checkNumbers_52
  · have f_7 : p0.toInt ≠ (99 : Int) := kx_ne c_1
    refine lv_iload_n hx hb dX7_checkNumbers_6 rfl (lv_at hl 1 rfl) ?_
    refine lv_bipush (v := 108) hx hb dX7_checkNumbers_7 (by decide) ?_
    refine lv_icmp_eq (tgt := 35) hx hb dX7_checkNumbers_9 (by decide) (fun c_8 => ?_) (fun c_8 => ?_)
    · have f_9 : p0.toInt = (108 : Int) := kx_eq c_8
      refine lv_aload_n hx hb dX7_checkNumbers_35 rfl (lv_at hl 0 rfl) ?_
      refine lv_iload_n hx hb dX7_checkNumbers_36 rfl (lv_at hl 2 rfl) ?_
      refine lv_iconst (v := 0) hx hb dX7_checkNumbers_37 (by decide) ?_
      refine lv_bipush (v := 20) hx hb dX7_checkNumbers_38 (by decide) ?_
      have hPc := hP.sub (ws' := []) [] rfl
      refine vx_callv (vx_runV (As := [.int p1, .int 0, .int 20]) (rest := []) ⟨hx, hb, hml, hown, hts⟩ (k_X7_checkRange l hl9 D cy h1 p1 0 20) (cwV 3 hts gX7_checkNumbers_X7_checkRange rfl rfl rfl (by decide +kernel) ⟨(Nat.le_of_ble_eq_true rfl), (Nat.le_of_ble_eq_true rfl)⟩) ⟨kRX_fb, va_recv hK hP (ci := 9) (q0 := 0) rfl rfl, (kRX_go hPc hK hE hS)⟩ rfl rfl hl.1 rfl (lv_room (Nat.le_of_ble_eq_true rfl)) dX7_checkNumbers_40 ⟨(Nat.le_of_ble_eq_true rfl), (Nat.le_of_ble_eq_true rfl)⟩) hS (fun _ _ h => h.elim) (fun _ h => h.elim) (fun _ _ h => h.elim) (fun E9 ce9 q9 u t H locs ht hvm hw hB hz1 hk1 hS hce hcv hcl => ?_) (fun u t H locs ht hvm hw hB hz1 hk1 hS => ?_)
      · obtain ⟨rfl, hB⟩ := hB
        have f_10 : ¬ (((0 : Int) ≤ p1.toInt ∧ p1.toInt ≤ (20 : Int))) := hB
        exact vx_out (fun x hx => (ht9 x hx).elim) hlocks hce hcv hcl (fun t ht _ => ⟨(), trivial, (⟨rfl, (by omega)⟩), hS.F ht⟩) hS.2.2 (Nat.le_of_ble_eq_true rfl) (Nat.le_of_ble_eq_true rfl)
      · have hP := kx_kept hP hk1
        have f_11 : ((0 : Int) ≤ p1.toInt ∧ p1.toInt ≤ (20 : Int)) := hw
        refine lv_aload_n hx hb dX7_checkNumbers_43 rfl (lv_at hl 0 rfl) ?_
        refine lv_iload_n hx hb dX7_checkNumbers_44 rfl (lv_at hl 3 rfl) ?_
        refine lv_iconst (v := 0) hx hb dX7_checkNumbers_45 (by decide) ?_
        refine lv_sipush (v := 999) hx hb dX7_checkNumbers_46 (by decide) ?_
        have hPc := hP.sub (ws' := []) [] rfl
        refine vx_callv (vx_runV (As := [.int p2, .int 0, .int 999]) (rest := []) ⟨hx, hb, hml, hown, hts⟩ (k_X7_checkRange l hl9 D cy h1 p2 0 999) (cwV 3 hts gX7_checkNumbers_X7_checkRange rfl rfl rfl (by decide +kernel) ⟨(Nat.le_of_ble_eq_true rfl), (Nat.le_of_ble_eq_true rfl)⟩) ⟨kRX_fb, va_recv hK hP (ci := 9) (q0 := 0) rfl rfl, (kRX_go hPc hK hE hS)⟩ rfl rfl hl.1 rfl (lv_room (Nat.le_of_ble_eq_true rfl)) dX7_checkNumbers_49 ⟨(Nat.le_of_ble_eq_true rfl), (Nat.le_of_ble_eq_true rfl)⟩) hS (fun _ _ h => h.elim) (fun _ h => h.elim) (fun _ _ h => h.elim) (fun E9 ce9 q9 u t H locs ht hvm hw hB hz1 hk1 hS hce hcv hcl => ?_) (fun u t H locs ht hvm hw hB hz1 hk1 hS => ?_)
        · obtain ⟨rfl, hB⟩ := hB
          have f_12 : ¬ (((0 : Int) ≤ p2.toInt ∧ p2.toInt ≤ (999 : Int))) := hB
          exact vx_out (fun x hx => (ht9 x hx).elim) hlocks hce hcv hcl (fun t ht _ => ⟨(), trivial, (⟨rfl, (by omega)⟩), hS.F ht⟩) hS.2.2 (Nat.le_of_ble_eq_true rfl) (Nat.le_of_ble_eq_true rfl)
        · have hP := kx_kept hP hk1
          have f_13 : ((0 : Int) ≤ p2.toInt ∧ p2.toInt ≤ (999 : Int)) := hw
          refine vx_ret ?_
          refine W.widen (k := 2) (n := 12) (Nat.le_of_ble_eq_true rfl) (Nat.le_of_ble_eq_true rfl) ?_
          exact W.vret hx hb hr (fun t ht hW => ⟨⟨(), rfl, (by omega), trivial⟩, hS.F ht⟩) hS.2.2 dX7_checkNumbers_52
    · have f_14 : p0.toInt ≠ (108 : Int) := kx_ne c_8
      refine lv_iload_n hx hb dX7_checkNumbers_12 rfl (lv_at hl 1 rfl) ?_
      refine lv_bipush (v := 113) hx hb dX7_checkNumbers_13 (by decide) ?_
      refine lv_icmp_eq (tgt := 35) hx hb dX7_checkNumbers_15 (by decide) (fun c_15 => ?_) (fun c_15 => ?_)
      · have f_16 : p0.toInt = (113 : Int) := kx_eq c_15
        refine lv_aload_n hx hb dX7_checkNumbers_35 rfl (lv_at hl 0 rfl) ?_
        refine lv_iload_n hx hb dX7_checkNumbers_36 rfl (lv_at hl 2 rfl) ?_
        refine lv_iconst (v := 0) hx hb dX7_checkNumbers_37 (by decide) ?_
        refine lv_bipush (v := 20) hx hb dX7_checkNumbers_38 (by decide) ?_
        have hPc := hP.sub (ws' := []) [] rfl
        refine vx_callv (vx_runV (As := [.int p1, .int 0, .int 20]) (rest := []) ⟨hx, hb, hml, hown, hts⟩ (k_X7_checkRange l hl9 D cy h1 p1 0 20) (cwV 3 hts gX7_checkNumbers_X7_checkRange rfl rfl rfl (by decide +kernel) ⟨(Nat.le_of_ble_eq_true rfl), (Nat.le_of_ble_eq_true rfl)⟩) ⟨kRX_fb, va_recv hK hP (ci := 9) (q0 := 0) rfl rfl, (kRX_go hPc hK hE hS)⟩ rfl rfl hl.1 rfl (lv_room (Nat.le_of_ble_eq_true rfl)) dX7_checkNumbers_40 ⟨(Nat.le_of_ble_eq_true rfl), (Nat.le_of_ble_eq_true rfl)⟩) hS (fun _ _ h => h.elim) (fun _ h => h.elim) (fun _ _ h => h.elim) (fun E9 ce9 q9 u t H locs ht hvm hw hB hz1 hk1 hS hce hcv hcl => ?_) (fun u t H locs ht hvm hw hB hz1 hk1 hS => ?_)
        · obtain ⟨rfl, hB⟩ := hB
          have f_17 : ¬ (((0 : Int) ≤ p1.toInt ∧ p1.toInt ≤ (20 : Int))) := hB
          exact vx_out (fun x hx => (ht9 x hx).elim) hlocks hce hcv hcl (fun t ht _ => ⟨(), trivial, (⟨rfl, (by omega)⟩), hS.F ht⟩) hS.2.2 (Nat.le_of_ble_eq_true rfl) (Nat.le_of_ble_eq_true rfl)
        · have hP := kx_kept hP hk1
          have f_18 : ((0 : Int) ≤ p1.toInt ∧ p1.toInt ≤ (20 : Int)) := hw
          refine lv_aload_n hx hb dX7_checkNumbers_43 rfl (lv_at hl 0 rfl) ?_
          refine lv_iload_n hx hb dX7_checkNumbers_44 rfl (lv_at hl 3 rfl) ?_
          refine lv_iconst (v := 0) hx hb dX7_checkNumbers_45 (by decide) ?_
          refine lv_sipush (v := 999) hx hb dX7_checkNumbers_46 (by decide) ?_
          have hPc := hP.sub (ws' := []) [] rfl
          refine vx_callv (vx_runV (As := [.int p2, .int 0, .int 999]) (rest := []) ⟨hx, hb, hml, hown, hts⟩ (k_X7_checkRange l hl9 D cy h1 p2 0 999) (cwV 3 hts gX7_checkNumbers_X7_checkRange rfl rfl rfl (by decide +kernel) ⟨(Nat.le_of_ble_eq_true rfl), (Nat.le_of_ble_eq_true rfl)⟩) ⟨kRX_fb, va_recv hK hP (ci := 9) (q0 := 0) rfl rfl, (kRX_go hPc hK hE hS)⟩ rfl rfl hl.1 rfl (lv_room (Nat.le_of_ble_eq_true rfl)) dX7_checkNumbers_49 ⟨(Nat.le_of_ble_eq_true rfl), (Nat.le_of_ble_eq_true rfl)⟩) hS (fun _ _ h => h.elim) (fun _ h => h.elim) (fun _ _ h => h.elim) (fun E9 ce9 q9 u t H locs ht hvm hw hB hz1 hk1 hS hce hcv hcl => ?_) (fun u t H locs ht hvm hw hB hz1 hk1 hS => ?_)
          · obtain ⟨rfl, hB⟩ := hB
            have f_19 : ¬ (((0 : Int) ≤ p2.toInt ∧ p2.toInt ≤ (999 : Int))) := hB
            exact vx_out (fun x hx => (ht9 x hx).elim) hlocks hce hcv hcl (fun t ht _ => ⟨(), trivial, (⟨rfl, (by omega)⟩), hS.F ht⟩) hS.2.2 (Nat.le_of_ble_eq_true rfl) (Nat.le_of_ble_eq_true rfl)
          · have hP := kx_kept hP hk1
            have f_20 : ((0 : Int) ≤ p2.toInt ∧ p2.toInt ≤ (999 : Int)) := hw
            refine vx_ret ?_
            refine W.widen (k := 2) (n := 12) (Nat.le_of_ble_eq_true rfl) (Nat.le_of_ble_eq_true rfl) ?_
            exact W.vret hx hb hr (fun t ht hW => ⟨⟨(), rfl, (by omega), trivial⟩, hS.F ht⟩) hS.2.2 dX7_checkNumbers_52
      · have f_21 : p0.toInt ≠ (113 : Int) := kx_ne c_15
        refine lv_iload_n hx hb dX7_checkNumbers_18 rfl (lv_at hl 1 rfl) ?_
        refine lv_bipush (v := 115) hx hb dX7_checkNumbers_19 (by decide) ?_
        refine lv_icmp_eq (tgt := 35) hx hb dX7_checkNumbers_21 (by decide) (fun c_22 => ?_) (fun c_22 => ?_)
        · have f_23 : p0.toInt = (115 : Int) := kx_eq c_22
          refine lv_aload_n hx hb dX7_checkNumbers_35 rfl (lv_at hl 0 rfl) ?_
          refine lv_iload_n hx hb dX7_checkNumbers_36 rfl (lv_at hl 2 rfl) ?_
          refine lv_iconst (v := 0) hx hb dX7_checkNumbers_37 (by decide) ?_
          refine lv_bipush (v := 20) hx hb dX7_checkNumbers_38 (by decide) ?_
          have hPc := hP.sub (ws' := []) [] rfl
          refine vx_callv (vx_runV (As := [.int p1, .int 0, .int 20]) (rest := []) ⟨hx, hb, hml, hown, hts⟩ (k_X7_checkRange l hl9 D cy h1 p1 0 20) (cwV 3 hts gX7_checkNumbers_X7_checkRange rfl rfl rfl (by decide +kernel) ⟨(Nat.le_of_ble_eq_true rfl), (Nat.le_of_ble_eq_true rfl)⟩) ⟨kRX_fb, va_recv hK hP (ci := 9) (q0 := 0) rfl rfl, (kRX_go hPc hK hE hS)⟩ rfl rfl hl.1 rfl (lv_room (Nat.le_of_ble_eq_true rfl)) dX7_checkNumbers_40 ⟨(Nat.le_of_ble_eq_true rfl), (Nat.le_of_ble_eq_true rfl)⟩) hS (fun _ _ h => h.elim) (fun _ h => h.elim) (fun _ _ h => h.elim) (fun E9 ce9 q9 u t H locs ht hvm hw hB hz1 hk1 hS hce hcv hcl => ?_) (fun u t H locs ht hvm hw hB hz1 hk1 hS => ?_)
          · obtain ⟨rfl, hB⟩ := hB
            have f_24 : ¬ (((0 : Int) ≤ p1.toInt ∧ p1.toInt ≤ (20 : Int))) := hB
            exact vx_out (fun x hx => (ht9 x hx).elim) hlocks hce hcv hcl (fun t ht _ => ⟨(), trivial, (⟨rfl, (by omega)⟩), hS.F ht⟩) hS.2.2 (Nat.le_of_ble_eq_true rfl) (Nat.le_of_ble_eq_true rfl)
          · have hP := kx_kept hP hk1
            have f_25 : ((0 : Int) ≤ p1.toInt ∧ p1.toInt ≤ (20 : Int)) := hw
            refine lv_aload_n hx hb dX7_checkNumbers_43 rfl (lv_at hl 0 rfl) ?_
            refine lv_iload_n hx hb dX7_checkNumbers_44 rfl (lv_at hl 3 rfl) ?_
            refine lv_iconst (v := 0) hx hb dX7_checkNumbers_45 (by decide) ?_
            refine lv_sipush (v := 999) hx hb dX7_checkNumbers_46 (by decide) ?_
            have hPc := hP.sub (ws' := []) [] rfl
            refine vx_callv (vx_runV (As := [.int p2, .int 0, .int 999]) (rest := []) ⟨hx, hb, hml, hown, hts⟩ (k_X7_checkRange l hl9 D cy h1 p2 0 999) (cwV 3 hts gX7_checkNumbers_X7_checkRange rfl rfl rfl (by decide +kernel) ⟨(Nat.le_of_ble_eq_true rfl), (Nat.le_of_ble_eq_true rfl)⟩) ⟨kRX_fb, va_recv hK hP (ci := 9) (q0 := 0) rfl rfl, (kRX_go hPc hK hE hS)⟩ rfl rfl hl.1 rfl (lv_room (Nat.le_of_ble_eq_true rfl)) dX7_checkNumbers_49 ⟨(Nat.le_of_ble_eq_true rfl), (Nat.le_of_ble_eq_true rfl)⟩) hS (fun _ _ h => h.elim) (fun _ h => h.elim) (fun _ _ h => h.elim) (fun E9 ce9 q9 u t H locs ht hvm hw hB hz1 hk1 hS hce hcv hcl => ?_) (fun u t H locs ht hvm hw hB hz1 hk1 hS => ?_)
            · obtain ⟨rfl, hB⟩ := hB
              have f_26 : ¬ (((0 : Int) ≤ p2.toInt ∧ p2.toInt ≤ (999 : Int))) := hB
              exact vx_out (fun x hx => (ht9 x hx).elim) hlocks hce hcv hcl (fun t ht _ => ⟨(), trivial, (⟨rfl, (by omega)⟩), hS.F ht⟩) hS.2.2 (Nat.le_of_ble_eq_true rfl) (Nat.le_of_ble_eq_true rfl)
            · have hP := kx_kept hP hk1
              have f_27 : ((0 : Int) ≤ p2.toInt ∧ p2.toInt ≤ (999 : Int)) := hw
              refine vx_ret ?_
              refine W.widen (k := 2) (n := 12) (Nat.le_of_ble_eq_true rfl) (Nat.le_of_ble_eq_true rfl) ?_
              exact W.vret hx hb hr (fun t ht hW => ⟨⟨(), rfl, (by omega), trivial⟩, hS.F ht⟩) hS.2.2 dX7_checkNumbers_52
        · have f_28 : p0.toInt ≠ (115 : Int) := kx_ne c_22
          obtain ⟨sa9, hsa9⟩ := hE.2.1 (364, "no such kind") (by decide +kernel)
          exact vx_throwSW (own := RX7) (cls := "java/lang/IllegalArgumentException") (text := "no such kind") (names := ["java/lang/RuntimeException", "java/lang/Exception"]) (A := (fun _ : Nat => False)) hx hb hl9 hown (by decide +kernel) (by decide +kernel) (hts (.classLink RX7 95 "java/lang/IllegalArgumentException") (List.mem_cons_of_mem _ (List.mem_append_left _ (List.mem_of_getElem? (i := 0) rfl)))) (hts (.initialized "java/lang/IllegalArgumentException") (List.mem_cons_of_mem _ (List.mem_append_left _ (List.mem_of_getElem? (i := 1) rfl)))) hsa9 (ex_hat hE (fun w h => hts w (List.mem_cons_of_mem _ (List.mem_append_right _ h))) (by decide +kernel) (by decide +kernel)) (by decide +kernel) hE.1.1 hE.1.2 hS (by rw [hml]; exact hl.1) dX7_checkNumbers_24 dX7_checkNumbers_27 dX7_checkNumbers_28 dX7_checkNumbers_31 dX7_checkNumbers_34 (fun x hx => (ht9 x hx).elim) (Nat.le_of_ble_eq_true rfl) (Nat.le_of_ble_eq_true rfl) (Nat.le_of_ble_eq_true rfl) (Nat.le_of_ble_eq_true rfl) hlocks (fun t hal hz hk => ⟨(), trivial, (⟨rfl, (by omega)⟩), kx_thr hS hz hk⟩) hS.2.2 (Nat.le_of_ble_eq_true rfl) (Nat.le_of_ble_eq_true rfl)
theorem dX7_checkRoomForResource_0 : decode cX7_checkRoomForResource 0 = .ok (.aload_n 0, 1) := by decide +kernel
theorem dX7_checkRoomForResource_1 : decode cX7_checkRoomForResource 1 = .ok (.getfield 10, 3) := by decide +kernel
theorem dX7_checkRoomForResource_4 : decode cX7_checkRoomForResource 4 = .ok (.getfield 92, 3) := by decide +kernel
theorem dX7_checkRoomForResource_7 : decode cX7_checkRoomForResource 7 = .ok (.bipush 8, 2) := by decide +kernel
theorem dX7_checkRoomForResource_9 : decode cX7_checkRoomForResource 9 = .ok (.if_icmp .lt 14, 3) := by decide +kernel
theorem dX7_checkRoomForResource_23 : decode cX7_checkRoomForResource 23 = .ok (.return_, 1) := by decide +kernel
set_option maxHeartbeats 4000000 in
set_option maxRecDepth 100000 in
theorem k_X7_checkRoomForResource (l : Launch) (D : va_G) (cy : Nat → ClassId) (h1 : Nat) (h2 : Nat) (x3 : Value) (x4 : Value) (x5 : Value) (x6 : Value) (x7 : Value) (x8 : Value) (x9 : Value) (x10 : Value) (x11 : Value) : Met l yX7_checkRoomForResource wsX7_checkRoomForResource ({ frames := 0, cells := 0, slots := 0, locals := 0 }) (kR D cy [.ref h1] [(h1, .inr (9, [.ref h2, x3, x4, x5, x6, x7, x8])), (h2, .inr (2, [x9, x10, .int 0, x11]))]) (va_Qv (fun (_ : Unit) => True) (fun (_ : Unit) (_ : State) => True) (fun _ : Nat => False)) 0 0 (fun _ : Nat => False) := by
  refine Met.ofW (cc := cX7_checkRoomForResource) (maxL := 1) (ret := none) (by decide) rfl ?_
  intro p e s m args below meth c s₁ B hml hv
  obtain ⟨rfl, hP, hK⟩ := hv
  have hx := B.exec
  have hb := B.bytes
  have hr := B.returns
  have hts := atoms_spec (ws := wsX7_checkRoomForResource) B.pre
  have hown : s.vm.findClass RX7 = some m.cls := findClass_of_methodNamed B.named
  have hlocks := B.notSynchronized
  have hS : va_S (fun _ : Nat => False) s.heap s.heap [] := va_S.rf
  have hP : va_P D vwCl [(h1, .inr (9, [.ref h2, x3, x4, x5, x6, x7, x8])), (h2, .inr (2, [x9, x10, .int 0, x11]))] s.heap := hP
  have hl := lv_entry ([.ref h1]) (n := 1) (Nat.le_of_ble_eq_true rfl)
  rw [lg_entry_eq]
  generalize (lg_sl ([.ref h1]) ++ List.replicate (1 - (lg_sl ([.ref h1])).length) Slot.unset).toArray = ls at hl ⊢
  have hl : lv_has ls 1 [(0, .ref h1)] := hl
  refine lv_aload_n hx hb dX7_checkRoomForResource_0 rfl (lv_at hl 0 rfl) ?_
  refine va_get (D := D) (ci := 9) (v := .ref h2) (C := RX7) (T := TX7) (N := 7) hx hb hts (fun _ h => (List.mem_cons_of_mem _ (List.mem_append_left _ (List.mem_append_left _ (List.mem_append_right _ h))))) hown hK hP 0 rfl rfl 0 (by decide) (hts (.fieldLink RX7 10 "SelfishJunction" "board" "LSelfishJunction$Board;") (List.mem_cons_of_mem _ (List.mem_append_left _ (List.mem_append_left _ (List.mem_append_left _ (List.mem_of_getElem? (i := 2) rfl)))))) (fun _ h9 => h9) rfl dX7_checkRoomForResource_1 ?_
  refine va_get (D := D) (ci := 2) (v := .int 0) (C := RX0) (T := TX0) (N := 4) hx hb hts (fun _ h => (List.mem_cons_of_mem _ (List.mem_append_left _ (List.mem_append_right _ h)))) hown hK hP 1 rfl rfl 2 (by decide) (hts (.fieldLink RX7 92 "SelfishJunction$Board" "resourceCount" "I") (List.mem_cons_of_mem _ (List.mem_append_left _ (List.mem_append_left _ (List.mem_append_left _ (List.mem_of_getElem? (i := 3) rfl)))))) (fun _ h9 => h9) rfl dX7_checkRoomForResource_4 ?_
  refine lv_bipush (v := 8) hx hb dX7_checkRoomForResource_7 (by decide) ?_
  refine lv_icmp_lt (tgt := 23) hx hb dX7_checkRoomForResource_9 (by decide) (fun _ => ?_) (fun h => absurd (by decide) h)
  refine W.widen (k := 0) (n := 0) (Nat.le_of_ble_eq_true rfl) (Nat.le_of_ble_eq_true rfl) ?_
  exact W.vret hx hb hr (fun t ht hW => ⟨⟨(), rfl, trivial, trivial⟩, hS.F ht⟩) hS.2.2 dX7_checkRoomForResource_23
theorem dX5_grown_0 : decode cX5_grown 0 = .ok (.aload_n 0, 1) := by decide +kernel
theorem dX5_grown_1 : decode cX5_grown 1 = .ok (.getfield 9, 3) := by decide +kernel
theorem dX5_grown_4 : decode cX5_grown 4 = .ok (.bipush 108, 2) := by decide +kernel
theorem dX5_grown_6 : decode cX5_grown 6 = .ok (.if_icmp .ne 10, 3) := by decide +kernel
theorem dX5_grown_16 : decode cX5_grown 16 = .ok (.aload_n 0, 1) := by decide +kernel
theorem dX5_grown_17 : decode cX5_grown 17 = .ok (.getfield 9, 3) := by decide +kernel
theorem dX5_grown_20 : decode cX5_grown 20 = .ok (.bipush 113, 2) := by decide +kernel
theorem dX5_grown_22 : decode cX5_grown 22 = .ok (.if_icmp .ne 12, 3) := by decide +kernel
theorem dX5_grown_34 : decode cX5_grown 34 = .ok (.aload_n 0, 1) := by decide +kernel
theorem dX5_grown_35 : decode cX5_grown 35 = .ok (.getfield 9, 3) := by decide +kernel
theorem dX5_grown_38 : decode cX5_grown 38 = .ok (.bipush 115, 2) := by decide +kernel
theorem dX5_grown_40 : decode cX5_grown 40 = .ok (.if_icmp .ne 21, 3) := by decide +kernel
theorem dX5_grown_61 : decode cX5_grown 61 = .ok (.iconst 0, 1) := by decide +kernel
theorem dX5_grown_62 : decode cX5_grown 62 = .ok (.ireturn, 1) := by decide +kernel
theorem dX5_grown_43 : decode cX5_grown 43 = .ok (.iload_n 1, 1) := by decide +kernel
theorem dX5_grown_44 : decode cX5_grown 44 = .ok (.ifCond .le 17, 3) := by decide +kernel
theorem dX5_grown_47 : decode cX5_grown 47 = .ok (.bipush 100, 2) := by decide +kernel
theorem dX5_grown_49 : decode cX5_grown 49 = .ok (.aload_n 0, 1) := by decide +kernel
theorem dX5_grown_50 : decode cX5_grown 50 = .ok (.getfield 33, 3) := by decide +kernel
theorem dX5_grown_53 : decode cX5_grown 53 = .ok (.imul, 1) := by decide +kernel
theorem dX5_grown_54 : decode cX5_grown 54 = .ok (.iload_n 1, 1) := by decide +kernel
theorem dX5_grown_55 : decode cX5_grown 55 = .ok (.iadd, 1) := by decide +kernel
theorem dX5_grown_56 : decode cX5_grown 56 = .ok (.iconst 1, 1) := by decide +kernel
theorem dX5_grown_57 : decode cX5_grown 57 = .ok (.isub, 1) := by decide +kernel
theorem dX5_grown_58 : decode cX5_grown 58 = .ok (.iload_n 1, 1) := by decide +kernel
theorem dX5_grown_59 : decode cX5_grown 59 = .ok (.idiv, 1) := by decide +kernel
theorem dX5_grown_60 : decode cX5_grown 60 = .ok (.ireturn, 1) := by decide +kernel
theorem dX5_grown_25 : decode cX5_grown 25 = .ok (.aload_n 0, 1) := by decide +kernel
theorem dX5_grown_26 : decode cX5_grown 26 = .ok (.getfield 33, 3) := by decide +kernel
theorem dX5_grown_29 : decode cX5_grown 29 = .ok (.iload_n 1, 1) := by decide +kernel
theorem dX5_grown_30 : decode cX5_grown 30 = .ok (.imul, 1) := by decide +kernel
theorem dX5_grown_31 : decode cX5_grown 31 = .ok (.iload_n 1, 1) := by decide +kernel
theorem dX5_grown_32 : decode cX5_grown 32 = .ok (.imul, 1) := by decide +kernel
theorem dX5_grown_33 : decode cX5_grown 33 = .ok (.ireturn, 1) := by decide +kernel
theorem dX5_grown_9 : decode cX5_grown 9 = .ok (.aload_n 0, 1) := by decide +kernel
theorem dX5_grown_10 : decode cX5_grown 10 = .ok (.getfield 33, 3) := by decide +kernel
theorem dX5_grown_13 : decode cX5_grown 13 = .ok (.iload_n 1, 1) := by decide +kernel
theorem dX5_grown_14 : decode cX5_grown 14 = .ok (.imul, 1) := by decide +kernel
theorem dX5_grown_15 : decode cX5_grown 15 = .ok (.ireturn, 1) := by decide +kernel
set_option maxHeartbeats 4000000 in
set_option maxRecDepth 100000 in
theorem k_X5_grown (l : Launch) (D : va_G) (cy : Nat → ClassId) (h1 : Nat) (p0 : Int32) (i2 : Int32) (x3 : Value) (i4 : Int32) (x5 : Value) (x6 : Value) (x7 : Value) (x8 : Value) : Met l yX5_grown wsX5_grown ({ frames := 0, cells := 0, slots := 0, locals := 0 }) (kR D cy [.ref h1, .int p0] [(h1, .inr (7, [.int i2, x3, .int i4, x5, x6, x7, x8]))]) (va_Qi (fun (r : Int32) (_ : Unit) => True) (fun (_ : Unit) (_ : State) => True) (fun _ : Nat => False)) 0 0 (fun _ : Nat => False) := by
  refine Met.ofW (cc := cX5_grown) (maxL := 2) (ret := (some .int)) (by decide) rfl ?_
  intro p e s m args below meth c s₁ B hml hv
  obtain ⟨rfl, hP, hK⟩ := hv
  have hx := B.exec
  have hb := B.bytes
  have hr := B.returns
  have hts := atoms_spec (ws := wsX5_grown) B.pre
  have hown : s.vm.findClass RX5 = some m.cls := findClass_of_methodNamed B.named
  have hlocks := B.notSynchronized
  have hS : va_S (fun _ : Nat => False) s.heap s.heap [] := va_S.rf
  have hP : va_P D vwCl [(h1, .inr (7, [.int i2, x3, .int i4, x5, x6, x7, x8]))] s.heap := hP
  have hl := lv_entry ([.ref h1, .int p0]) (n := 2) (Nat.le_of_ble_eq_true rfl)
  rw [lg_entry_eq]
  generalize (lg_sl ([.ref h1, .int p0]) ++ List.replicate (2 - (lg_sl ([.ref h1, .int p0])).length) Slot.unset).toArray = ls at hl ⊢
  have hl : lv_has ls 2 [(0, .ref h1), (1, .int p0)] := hl
  refine lv_aload_n hx hb dX5_grown_0 rfl (lv_at hl 0 rfl) ?_
  refine va_get (D := D) (ci := 7) (v := .int i4) (C := RX5) (T := TX5) (N := 7) hx hb hts (fun _ h => (List.mem_cons_of_mem _ (List.mem_append_left _ (List.mem_append_right _ h)))) hown hK hP 0 rfl rfl 2 (by decide) (hts (.fieldLink RX5 9 "SelfishJunction$Resource" "kind" "C") (List.mem_cons_of_mem _ (List.mem_append_left _ (List.mem_append_left _ (List.mem_of_getElem? (i := 0) rfl))))) (fun _ h9 => h9) rfl dX5_grown_1 ?_
  refine lv_bipush (v := 108) hx hb dX5_grown_4 (by decide) ?_
  refine lv_icmp_ne (tgt := 16) hx hb dX5_grown_6 (by decide) (fun c_1 => ?_) (fun c_1 => ?_)
  · have f_2 : i4.toInt ≠ (108 : Int) := kx_ne c_1
    refine lv_aload_n hx hb dX5_grown_16 rfl (lv_at hl 0 rfl) ?_
    refine va_get (D := D) (ci := 7) (v := .int i4) (C := RX5) (T := TX5) (N := 7) hx hb hts (fun _ h => (List.mem_cons_of_mem _ (List.mem_append_left _ (List.mem_append_right _ h)))) hown hK hP 0 rfl rfl 2 (by decide) (hts (.fieldLink RX5 9 "SelfishJunction$Resource" "kind" "C") (List.mem_cons_of_mem _ (List.mem_append_left _ (List.mem_append_left _ (List.mem_of_getElem? (i := 0) rfl))))) (fun _ h9 => h9) rfl dX5_grown_17 ?_
    refine lv_bipush (v := 113) hx hb dX5_grown_20 (by decide) ?_
    refine lv_icmp_ne (tgt := 34) hx hb dX5_grown_22 (by decide) (fun c_3 => ?_) (fun c_3 => ?_)
    · have f_4 : i4.toInt ≠ (113 : Int) := kx_ne c_3
      refine lv_aload_n hx hb dX5_grown_34 rfl (lv_at hl 0 rfl) ?_
      refine va_get (D := D) (ci := 7) (v := .int i4) (C := RX5) (T := TX5) (N := 7) hx hb hts (fun _ h => (List.mem_cons_of_mem _ (List.mem_append_left _ (List.mem_append_right _ h)))) hown hK hP 0 rfl rfl 2 (by decide) (hts (.fieldLink RX5 9 "SelfishJunction$Resource" "kind" "C") (List.mem_cons_of_mem _ (List.mem_append_left _ (List.mem_append_left _ (List.mem_of_getElem? (i := 0) rfl))))) (fun _ h9 => h9) rfl dX5_grown_35 ?_
      refine lv_bipush (v := 115) hx hb dX5_grown_38 (by decide) ?_
      refine lv_icmp_ne (tgt := 61) hx hb dX5_grown_40 (by decide) (fun c_5 => ?_) (fun c_5 => ?_)
      · have f_6 : i4.toInt ≠ (115 : Int) := kx_ne c_5
        refine lv_iconst (v := 0) hx hb dX5_grown_61 (by decide) ?_
        refine W.widen (k := 0) (n := 0) (Nat.le_of_ble_eq_true rfl) (Nat.le_of_ble_eq_true rfl) ?_
        exact W.iret (v := 0) hx hb hr (fun t ht hW => ⟨⟨0, (), rfl, trivial, trivial⟩, hS.F ht⟩) hS.2.2 dX5_grown_62
      · have f_7 : i4.toInt = (115 : Int) := kx_eq c_5
        refine lv_iload_n hx hb dX5_grown_43 rfl (lv_at hl 1 rfl) ?_
        refine lv_if_le (tgt := 61) hx hb dX5_grown_44 (by decide) (fun c_8 => ?_) (fun c_8 => ?_)
        · have f_9 : p0.toInt ≤ (0 : Int) := kx_le c_8
          refine lv_iconst (v := 0) hx hb dX5_grown_61 (by decide) ?_
          refine W.widen (k := 0) (n := 0) (Nat.le_of_ble_eq_true rfl) (Nat.le_of_ble_eq_true rfl) ?_
          exact W.iret (v := 0) hx hb hr (fun t ht hW => ⟨⟨0, (), rfl, trivial, trivial⟩, hS.F ht⟩) hS.2.2 dX5_grown_62
        · have f_10 : (0 : Int) < p0.toInt := kx_nle c_8
          refine lv_bipush (v := 100) hx hb dX5_grown_47 (by decide) ?_
          refine lv_aload_n hx hb dX5_grown_49 rfl (lv_at hl 0 rfl) ?_
          refine va_get (D := D) (ci := 7) (v := .int i2) (C := RX5) (T := TX5) (N := 7) hx hb hts (fun _ h => (List.mem_cons_of_mem _ (List.mem_append_left _ (List.mem_append_right _ h)))) hown hK hP 0 rfl rfl 0 (by decide) (hts (.fieldLink RX5 33 "SelfishJunction$Resource" "a" "I") (List.mem_cons_of_mem _ (List.mem_append_left _ (List.mem_append_left _ (List.mem_of_getElem? (i := 1) rfl))))) (fun _ h9 => h9) rfl dX5_grown_50 ?_
          refine lv_imul hx hb dX5_grown_53 ?_
          refine lv_topi (fun v_11 ev_11 => ?_)
          refine lv_iload_n hx hb dX5_grown_54 rfl (lv_at hl 1 rfl) ?_
          refine lv_iadd hx hb dX5_grown_55 ?_
          refine lv_topi (fun v_12 ev_12 => ?_)
          refine lv_iconst (v := 1) hx hb dX5_grown_56 (by decide) ?_
          refine lv_isub hx hb dX5_grown_57 ?_
          refine lv_topi (fun v_13 ev_13 => ?_)
          refine lv_iload_n hx hb dX5_grown_58 rfl (lv_at hl 1 rfl) ?_
          refine lv_idiv hx hb dX5_grown_59 (fun h => by have h9 : p0.toInt = (0 : Int) := kx_eq h; omega) ?_
          refine lv_topi (fun v_14 ev_14 => ?_)
          refine W.widen (k := 0) (n := 0) (Nat.le_of_ble_eq_true rfl) (Nat.le_of_ble_eq_true rfl) ?_
          exact W.iret (v := v_14) hx hb hr (fun t ht hW => ⟨⟨v_14, (), rfl, trivial, trivial⟩, hS.F ht⟩) hS.2.2 dX5_grown_60
    · have f_15 : i4.toInt = (113 : Int) := kx_eq c_3
      refine lv_aload_n hx hb dX5_grown_25 rfl (lv_at hl 0 rfl) ?_
      refine va_get (D := D) (ci := 7) (v := .int i2) (C := RX5) (T := TX5) (N := 7) hx hb hts (fun _ h => (List.mem_cons_of_mem _ (List.mem_append_left _ (List.mem_append_right _ h)))) hown hK hP 0 rfl rfl 0 (by decide) (hts (.fieldLink RX5 33 "SelfishJunction$Resource" "a" "I") (List.mem_cons_of_mem _ (List.mem_append_left _ (List.mem_append_left _ (List.mem_of_getElem? (i := 1) rfl))))) (fun _ h9 => h9) rfl dX5_grown_26 ?_
      refine lv_iload_n hx hb dX5_grown_29 rfl (lv_at hl 1 rfl) ?_
      refine lv_imul hx hb dX5_grown_30 ?_
      refine lv_topi (fun v_16 ev_16 => ?_)
      refine lv_iload_n hx hb dX5_grown_31 rfl (lv_at hl 1 rfl) ?_
      refine lv_imul hx hb dX5_grown_32 ?_
      refine lv_topi (fun v_17 ev_17 => ?_)
      refine W.widen (k := 0) (n := 0) (Nat.le_of_ble_eq_true rfl) (Nat.le_of_ble_eq_true rfl) ?_
      exact W.iret (v := v_17) hx hb hr (fun t ht hW => ⟨⟨v_17, (), rfl, trivial, trivial⟩, hS.F ht⟩) hS.2.2 dX5_grown_33
  · have f_18 : i4.toInt = (108 : Int) := kx_eq c_1
    refine lv_aload_n hx hb dX5_grown_9 rfl (lv_at hl 0 rfl) ?_
    refine va_get (D := D) (ci := 7) (v := .int i2) (C := RX5) (T := TX5) (N := 7) hx hb hts (fun _ h => (List.mem_cons_of_mem _ (List.mem_append_left _ (List.mem_append_right _ h)))) hown hK hP 0 rfl rfl 0 (by decide) (hts (.fieldLink RX5 33 "SelfishJunction$Resource" "a" "I") (List.mem_cons_of_mem _ (List.mem_append_left _ (List.mem_append_left _ (List.mem_of_getElem? (i := 1) rfl))))) (fun _ h9 => h9) rfl dX5_grown_10 ?_
    refine lv_iload_n hx hb dX5_grown_13 rfl (lv_at hl 1 rfl) ?_
    refine lv_imul hx hb dX5_grown_14 ?_
    refine lv_topi (fun v_19 ev_19 => ?_)
    refine W.widen (k := 0) (n := 0) (Nat.le_of_ble_eq_true rfl) (Nat.le_of_ble_eq_true rfl) ?_
    exact W.iret (v := v_19) hx hb hr (fun t ht hW => ⟨⟨v_19, (), rfl, trivial, trivial⟩, hS.F ht⟩) hS.2.2 dX5_grown_15
theorem dX5_fillDelays_0 : decode cX5_fillDelays 0 = .ok (.iconst 1, 1) := by decide +kernel
theorem dX5_fillDelays_1 : decode cX5_fillDelays 1 = .ok (.istore_n 1, 1) := by decide +kernel
theorem dX5_fillDelays_2 : decode cX5_fillDelays 2 = .ok (.iload_n 1, 1) := by decide +kernel
theorem dX5_fillDelays_3 : decode cX5_fillDelays 3 = .ok (.bipush 18, 2) := by decide +kernel
theorem dX5_fillDelays_5 : decode cX5_fillDelays 5 = .ok (.if_icmp .gt 25, 3) := by decide +kernel
theorem dX5_fillDelays_8 : decode cX5_fillDelays 8 = .ok (.aload_n 0, 1) := by decide +kernel
theorem dX5_fillDelays_9 : decode cX5_fillDelays 9 = .ok (.getfield 22, 3) := by decide +kernel
theorem dX5_fillDelays_12 : decode cX5_fillDelays 12 = .ok (.iload_n 1, 1) := by decide +kernel
theorem dX5_fillDelays_13 : decode cX5_fillDelays 13 = .ok (.aload_n 0, 1) := by decide +kernel
theorem dX5_fillDelays_14 : decode cX5_fillDelays 14 = .ok (.getfield 26, 3) := by decide +kernel
theorem dX5_fillDelays_17 : decode cX5_fillDelays 17 = .ok (.aload_n 0, 1) := by decide +kernel
theorem dX5_fillDelays_18 : decode cX5_fillDelays 18 = .ok (.iload_n 1, 1) := by decide +kernel
theorem dX5_fillDelays_19 : decode cX5_fillDelays 19 = .ok (.invokevirtual 29, 3) := by decide +kernel
set_option maxRecDepth 20000 in
theorem ggX5_fillDelays_X5_grown : GoodIn wsX5_fillDelays wsX5_grown := goodIn_ca (goodIn_r _ [7, 8, 9, 10, 11, 12, 13, 14, 15, 16] (by decide +kernel) (by decide +kernel)) (goodIn_sub (fun _ h => List.mem_cons_of_mem _ (List.mem_append_right _ h)) (by decide +kernel))
set_option maxRecDepth 20000 in
theorem gX5_fillDelays_X5_grown : GoodIn wsX5_fillDelays (wsV RX5 29 RX5 yX5_grown wsX5_grown) := goodIn_app (goodIn_of _ (by decide +kernel)) ggX5_fillDelays_X5_grown
theorem dX5_fillDelays_22 : decode cX5_fillDelays 22 = .ok (.iadd, 1) := by decide +kernel
theorem dX5_fillDelays_23 : decode cX5_fillDelays 23 = .ok (.iastore, 1) := by decide +kernel
theorem dX5_fillDelays_24 : decode cX5_fillDelays 24 = .ok (.iinc 1 1, 3) := by decide +kernel
theorem dX5_fillDelays_27 : decode cX5_fillDelays 27 = .ok (.goto (-25), 3) := by decide +kernel
theorem dX5_fillDelays_30 : decode cX5_fillDelays 30 = .ok (.return_, 1) := by decide +kernel
set_option maxHeartbeats 4000000 in
set_option maxRecDepth 100000 in
theorem k_X5_fillDelays (l : Launch) (D : va_G) (cy : Nat → ClassId) (h1 : Nat) (i2 : Int32) (i3 : Int32) (i4 : Int32) (x5 : Value) (x6 : Value) (x7 : Value) (h8 : Nat) (g9 : Nat → Int32) (sz : Nat) : Met l yX5_fillDelays wsX5_fillDelays ({ frames := 1, cells := 0, slots := 0, locals := 21 }) (kW D cy [.ref h1] [(h1, .inr (7, [.int i2, .int i3, .int i4, x5, x6, x7, .ref h8])), (h8, .inl (cy 1, 19, .inl g9))] sz) (va_Qv (fun (u : (Nat → Int32)) => match u with | u1 => True) (fun (u : (Nat → Int32)) (t : State) => match u with | u1 => va_P D vwCl [(h1, .inr (7, [.int i2, .int i3, .int i4, x5, x6, x7, .ref h8])), (h8, .inl (cy 1, 19, .inl u1))] t.heap ∧ va_D (va_A [(h1, .inr (7, [.int i2, .int i3, .int i4, x5, x6, x7, .ref h8])), (h8, .inl (cy 1, 19, .inl g9))] sz) [(h1, .inr (7, [.int i2, .int i3, .int i4, x5, x6, x7, .ref h8])), (h8, .inl (cy 1, 19, .inl u1))]) (va_A [(h1, .inr (7, [.int i2, .int i3, .int i4, x5, x6, x7, .ref h8])), (h8, .inl (cy 1, 19, .inl g9))] sz)) 0 0 (va_A [(h1, .inr (7, [.int i2, .int i3, .int i4, x5, x6, x7, .ref h8])), (h8, .inl (cy 1, 19, .inl g9))] sz) := by
  refine Met.ofW (cc := cX5_fillDelays) (maxL := 2) (ret := none) (by decide) rfl ?_
  intro p e s m args below meth c s₁ B hml hv
  obtain ⟨rfl, hsz, hP, hK, hD0⟩ := hv
  have hx := B.exec
  have hb := B.bytes
  have hr := B.returns
  have hts := atoms_spec (ws := wsX5_fillDelays) B.pre
  have hown : s.vm.findClass RX5 = some m.cls := findClass_of_methodNamed B.named
  have hlocks := B.notSynchronized
  subst hsz
  have hD := hD0.self (sz := s.heap.size)
  generalize hAe : va_A [(h1, .inr (7, [.int i2, .int i3, .int i4, x5, x6, x7, .ref h8])), (h8, .inl (cy 1, 19, .inl g9))] s.heap.size = A at hD ⊢
  have hA : ∀ q : Nat, s.heap.size ≤ q → A q := fun q h => by rw [← hAe]; exact Or.inr h
  have hS : va_S A s.heap s.heap [] := va_S.rf
  have hP : va_P D vwCl [(h1, .inr (7, [.int i2, .int i3, .int i4, x5, x6, x7, .ref h8])), (h8, .inl (cy 1, 19, .inl g9))] s.heap := hP
  have hl := lv_entry ([.ref h1]) (n := 2) (Nat.le_of_ble_eq_true rfl)
  rw [lg_entry_eq]
  generalize (lg_sl ([.ref h1]) ++ List.replicate (2 - (lg_sl ([.ref h1])).length) Slot.unset).toArray = ls at hl ⊢
  have hl : lv_has ls 2 [(0, .ref h1)] := hl
  refine lv_iconst (v := 1) hx hb dX5_fillDelays_0 (by decide) ?_
  refine lv_istore_n (lv' := [(1, .int 1), (0, .ref h1)]) hx hb dX5_fillDelays_1 rfl hl (by decide) rfl (fun ls hl => ?_)
  refine lv_iload_n hx hb dX5_fillDelays_2 rfl (lv_at hl 0 rfl) ?_
  refine lv_bipush (v := 18) hx hb dX5_fillDelays_3 (by decide) ?_
  refine lv_icmp_gt (tgt := 30) hx hb dX5_fillDelays_5 (by decide) (fun h => absurd h (by decide)) (fun _ => ?_)
  refine lv_aload_n hx hb dX5_fillDelays_8 rfl (lv_at hl 1 rfl) ?_
  refine va_get (D := D) (ci := 7) (v := .ref h8) (C := RX5) (T := TX5) (N := 7) hx hb hts (fun _ h => (List.mem_cons_of_mem _ (List.mem_append_left _ (List.mem_append_left _ (List.mem_append_right _ h))))) hown hK hP 0 rfl rfl 6 (by decide) (hts (.fieldLink RX5 22 "SelfishJunction$Resource" "delays" "[I") (List.mem_cons_of_mem _ (List.mem_append_left _ (List.mem_append_left _ (List.mem_append_left _ (List.mem_of_getElem? (i := 0) rfl)))))) (fun _ h9 => h9) rfl dX5_fillDelays_9 ?_
  refine lv_iload_n hx hb dX5_fillDelays_12 rfl (lv_at hl 0 rfl) ?_
  refine lv_aload_n hx hb dX5_fillDelays_13 rfl (lv_at hl 1 rfl) ?_
  refine va_get (D := D) (ci := 7) (v := .int i3) (C := RX5) (T := TX5) (N := 7) hx hb hts (fun _ h => (List.mem_cons_of_mem _ (List.mem_append_left _ (List.mem_append_left _ (List.mem_append_right _ h))))) hown hK hP 0 rfl rfl 1 (by decide) (hts (.fieldLink RX5 26 "SelfishJunction$Resource" "b" "I") (List.mem_cons_of_mem _ (List.mem_append_left _ (List.mem_append_left _ (List.mem_append_left _ (List.mem_of_getElem? (i := 1) rfl)))))) (fun _ h9 => h9) rfl dX5_fillDelays_14 ?_
  refine lv_aload_n hx hb dX5_fillDelays_17 rfl (lv_at hl 1 rfl) ?_
  refine lv_iload_n hx hb dX5_fillDelays_18 rfl (lv_at hl 0 rfl) ?_
  have hPc := hP.sub (ws' := [(h1, .inr (7, [.int i2, .int i3, .int i4, x5, x6, x7, .ref h8]))]) [0] rfl
  refine va_calli (va_runV (As := [.int 1]) (rest := [.int i3, .int 1, .ref h8]) ⟨hx, hb, hml, hown, hts⟩ (k_X5_grown l D cy h1 1 i2 (.int i3) i4 (x5) (x6) (x7) (.ref h8)) (cwV 1 hts gX5_fillDelays_X5_grown rfl rfl rfl (by decide +kernel) ⟨(Nat.le_of_ble_eq_true rfl), (Nat.le_of_ble_eq_true rfl)⟩) ⟨kR_fb, va_recv hK hP (ci := 7) (q0 := 0) rfl rfl, (kR_go hPc hK)⟩ rfl rfl hl.1 rfl (lv_room (Nat.le_of_ble_eq_true rfl)) dX5_fillDelays_19 ⟨(Nat.le_of_ble_eq_true rfl), (Nat.le_of_ble_eq_true rfl)⟩) hS (fun _ _ h => h.elim) (fun _ h => h.elim) (fun r9 u t H locs ht hvm hw hB hz1 hk1 hS => ?_)
  have hP := kx_kept hP hk1
  generalize r9 = v_2 at hw ⊢
  refine lv_iadd hx hb dX5_fillDelays_22 ?_
  refine lv_topi (fun v_3 ev_3 => ?_)
  refine va_iast hx hb hK hP hD hS 1 1 rfl rfl (kx_in 1 19 rfl ⟨(Nat.le_of_ble_eq_true rfl), (Nat.le_of_ble_eq_true rfl)⟩ (Nat.le_of_ble_eq_true rfl)) dX5_fillDelays_23 (fun H locs hP hD hS => ?_)
  have hP : va_P D vwCl [(h1, .inr (7, [.int i2, .int i3, .int i4, x5, x6, x7, .ref h8])), (h8, .inl (cy 1, 19, .inl (upd g9 1 v_3)))] H := hP
  have hD : va_D A [(h1, .inr (7, [.int i2, .int i3, .int i4, x5, x6, x7, .ref h8])), (h8, .inl (cy 1, 19, .inl (upd g9 1 v_3)))] := hD
  refine lv_iinc (v := 2) (lv' := [(1, .int 2), (0, .ref h1)]) hx hb dX5_fillDelays_24 hl (k := 0) rfl (by decide) (by decide) rfl (fun ls hl => ?_)
  refine lv_goto (tgt := 2) hx hb dX5_fillDelays_27 (by decide) ?_
  refine lv_iload_n hx hb dX5_fillDelays_2 rfl (lv_at hl 0 rfl) ?_
  refine lv_bipush (v := 18) hx hb dX5_fillDelays_3 (by decide) ?_
  refine lv_icmp_gt (tgt := 30) hx hb dX5_fillDelays_5 (by decide) (fun h => absurd h (by decide)) (fun _ => ?_)
  refine lv_aload_n hx hb dX5_fillDelays_8 rfl (lv_at hl 1 rfl) ?_
  refine va_get (D := D) (ci := 7) (v := .ref h8) (C := RX5) (T := TX5) (N := 7) hx hb hts (fun _ h => (List.mem_cons_of_mem _ (List.mem_append_left _ (List.mem_append_left _ (List.mem_append_right _ h))))) hown hK hP 0 rfl rfl 6 (by decide) (hts (.fieldLink RX5 22 "SelfishJunction$Resource" "delays" "[I") (List.mem_cons_of_mem _ (List.mem_append_left _ (List.mem_append_left _ (List.mem_append_left _ (List.mem_of_getElem? (i := 0) rfl)))))) (fun _ h9 => h9) rfl dX5_fillDelays_9 ?_
  refine lv_iload_n hx hb dX5_fillDelays_12 rfl (lv_at hl 0 rfl) ?_
  refine lv_aload_n hx hb dX5_fillDelays_13 rfl (lv_at hl 1 rfl) ?_
  refine va_get (D := D) (ci := 7) (v := .int i3) (C := RX5) (T := TX5) (N := 7) hx hb hts (fun _ h => (List.mem_cons_of_mem _ (List.mem_append_left _ (List.mem_append_left _ (List.mem_append_right _ h))))) hown hK hP 0 rfl rfl 1 (by decide) (hts (.fieldLink RX5 26 "SelfishJunction$Resource" "b" "I") (List.mem_cons_of_mem _ (List.mem_append_left _ (List.mem_append_left _ (List.mem_append_left _ (List.mem_of_getElem? (i := 1) rfl)))))) (fun _ h9 => h9) rfl dX5_fillDelays_14 ?_
  refine lv_aload_n hx hb dX5_fillDelays_17 rfl (lv_at hl 1 rfl) ?_
  refine lv_iload_n hx hb dX5_fillDelays_18 rfl (lv_at hl 0 rfl) ?_
  have hPc := hP.sub (ws' := [(h1, .inr (7, [.int i2, .int i3, .int i4, x5, x6, x7, .ref h8]))]) [0] rfl
  refine va_calli (va_runV (As := [.int 2]) (rest := [.int i3, .int 2, .ref h8]) ⟨hx, hb, hml, hown, hts⟩ (k_X5_grown l D cy h1 2 i2 (.int i3) i4 (x5) (x6) (x7) (.ref h8)) (cwV 1 hts gX5_fillDelays_X5_grown rfl rfl rfl (by decide +kernel) ⟨(Nat.le_of_ble_eq_true rfl), (Nat.le_of_ble_eq_true rfl)⟩) ⟨kR_fb, va_recv hK hP (ci := 7) (q0 := 0) rfl rfl, (kR_go hPc hK)⟩ rfl rfl hl.1 rfl (lv_room (Nat.le_of_ble_eq_true rfl)) dX5_fillDelays_19 ⟨(Nat.le_of_ble_eq_true rfl), (Nat.le_of_ble_eq_true rfl)⟩) hS (fun _ _ h => h.elim) (fun _ h => h.elim) (fun r9 u t H locs ht hvm hw hB hz1 hk1 hS => ?_)
  have hP := kx_kept hP hk1
  generalize r9 = v_5 at hw ⊢
  refine lv_iadd hx hb dX5_fillDelays_22 ?_
  refine lv_topi (fun v_6 ev_6 => ?_)
  refine va_iast hx hb hK hP hD hS 1 1 rfl rfl (kx_in 2 19 rfl ⟨(Nat.le_of_ble_eq_true rfl), (Nat.le_of_ble_eq_true rfl)⟩ (Nat.le_of_ble_eq_true rfl)) dX5_fillDelays_23 (fun H locs hP hD hS => ?_)
  have hP : va_P D vwCl [(h1, .inr (7, [.int i2, .int i3, .int i4, x5, x6, x7, .ref h8])), (h8, .inl (cy 1, 19, .inl (upd (upd g9 1 v_3) 2 v_6)))] H := hP
  have hD : va_D A [(h1, .inr (7, [.int i2, .int i3, .int i4, x5, x6, x7, .ref h8])), (h8, .inl (cy 1, 19, .inl (upd (upd g9 1 v_3) 2 v_6)))] := hD
  refine lv_iinc (v := 3) (lv' := [(1, .int 3), (0, .ref h1)]) hx hb dX5_fillDelays_24 hl (k := 0) rfl (by decide) (by decide) rfl (fun ls hl => ?_)
  refine lv_goto (tgt := 2) hx hb dX5_fillDelays_27 (by decide) ?_
  refine lv_iload_n hx hb dX5_fillDelays_2 rfl (lv_at hl 0 rfl) ?_
  refine lv_bipush (v := 18) hx hb dX5_fillDelays_3 (by decide) ?_
  refine lv_icmp_gt (tgt := 30) hx hb dX5_fillDelays_5 (by decide) (fun h => absurd h (by decide)) (fun _ => ?_)
  refine lv_aload_n hx hb dX5_fillDelays_8 rfl (lv_at hl 1 rfl) ?_
  refine va_get (D := D) (ci := 7) (v := .ref h8) (C := RX5) (T := TX5) (N := 7) hx hb hts (fun _ h => (List.mem_cons_of_mem _ (List.mem_append_left _ (List.mem_append_left _ (List.mem_append_right _ h))))) hown hK hP 0 rfl rfl 6 (by decide) (hts (.fieldLink RX5 22 "SelfishJunction$Resource" "delays" "[I") (List.mem_cons_of_mem _ (List.mem_append_left _ (List.mem_append_left _ (List.mem_append_left _ (List.mem_of_getElem? (i := 0) rfl)))))) (fun _ h9 => h9) rfl dX5_fillDelays_9 ?_
  refine lv_iload_n hx hb dX5_fillDelays_12 rfl (lv_at hl 0 rfl) ?_
  refine lv_aload_n hx hb dX5_fillDelays_13 rfl (lv_at hl 1 rfl) ?_
  refine va_get (D := D) (ci := 7) (v := .int i3) (C := RX5) (T := TX5) (N := 7) hx hb hts (fun _ h => (List.mem_cons_of_mem _ (List.mem_append_left _ (List.mem_append_left _ (List.mem_append_right _ h))))) hown hK hP 0 rfl rfl 1 (by decide) (hts (.fieldLink RX5 26 "SelfishJunction$Resource" "b" "I") (List.mem_cons_of_mem _ (List.mem_append_left _ (List.mem_append_left _ (List.mem_append_left _ (List.mem_of_getElem? (i := 1) rfl)))))) (fun _ h9 => h9) rfl dX5_fillDelays_14 ?_
  refine lv_aload_n hx hb dX5_fillDelays_17 rfl (lv_at hl 1 rfl) ?_
  refine lv_iload_n hx hb dX5_fillDelays_18 rfl (lv_at hl 0 rfl) ?_
  have hPc := hP.sub (ws' := [(h1, .inr (7, [.int i2, .int i3, .int i4, x5, x6, x7, .ref h8]))]) [0] rfl
  refine va_calli (va_runV (As := [.int 3]) (rest := [.int i3, .int 3, .ref h8]) ⟨hx, hb, hml, hown, hts⟩ (k_X5_grown l D cy h1 3 i2 (.int i3) i4 (x5) (x6) (x7) (.ref h8)) (cwV 1 hts gX5_fillDelays_X5_grown rfl rfl rfl (by decide +kernel) ⟨(Nat.le_of_ble_eq_true rfl), (Nat.le_of_ble_eq_true rfl)⟩) ⟨kR_fb, va_recv hK hP (ci := 7) (q0 := 0) rfl rfl, (kR_go hPc hK)⟩ rfl rfl hl.1 rfl (lv_room (Nat.le_of_ble_eq_true rfl)) dX5_fillDelays_19 ⟨(Nat.le_of_ble_eq_true rfl), (Nat.le_of_ble_eq_true rfl)⟩) hS (fun _ _ h => h.elim) (fun _ h => h.elim) (fun r9 u t H locs ht hvm hw hB hz1 hk1 hS => ?_)
  have hP := kx_kept hP hk1
  generalize r9 = v_8 at hw ⊢
  refine lv_iadd hx hb dX5_fillDelays_22 ?_
  refine lv_topi (fun v_9 ev_9 => ?_)
  refine va_iast hx hb hK hP hD hS 1 1 rfl rfl (kx_in 3 19 rfl ⟨(Nat.le_of_ble_eq_true rfl), (Nat.le_of_ble_eq_true rfl)⟩ (Nat.le_of_ble_eq_true rfl)) dX5_fillDelays_23 (fun H locs hP hD hS => ?_)
  have hP : va_P D vwCl [(h1, .inr (7, [.int i2, .int i3, .int i4, x5, x6, x7, .ref h8])), (h8, .inl (cy 1, 19, .inl (upd (upd (upd g9 1 v_3) 2 v_6) 3 v_9)))] H := hP
  have hD : va_D A [(h1, .inr (7, [.int i2, .int i3, .int i4, x5, x6, x7, .ref h8])), (h8, .inl (cy 1, 19, .inl (upd (upd (upd g9 1 v_3) 2 v_6) 3 v_9)))] := hD
  refine lv_iinc (v := 4) (lv' := [(1, .int 4), (0, .ref h1)]) hx hb dX5_fillDelays_24 hl (k := 0) rfl (by decide) (by decide) rfl (fun ls hl => ?_)
  refine lv_goto (tgt := 2) hx hb dX5_fillDelays_27 (by decide) ?_
  refine lv_iload_n hx hb dX5_fillDelays_2 rfl (lv_at hl 0 rfl) ?_
  refine lv_bipush (v := 18) hx hb dX5_fillDelays_3 (by decide) ?_
  refine lv_icmp_gt (tgt := 30) hx hb dX5_fillDelays_5 (by decide) (fun h => absurd h (by decide)) (fun _ => ?_)
  refine lv_aload_n hx hb dX5_fillDelays_8 rfl (lv_at hl 1 rfl) ?_
  refine va_get (D := D) (ci := 7) (v := .ref h8) (C := RX5) (T := TX5) (N := 7) hx hb hts (fun _ h => (List.mem_cons_of_mem _ (List.mem_append_left _ (List.mem_append_left _ (List.mem_append_right _ h))))) hown hK hP 0 rfl rfl 6 (by decide) (hts (.fieldLink RX5 22 "SelfishJunction$Resource" "delays" "[I") (List.mem_cons_of_mem _ (List.mem_append_left _ (List.mem_append_left _ (List.mem_append_left _ (List.mem_of_getElem? (i := 0) rfl)))))) (fun _ h9 => h9) rfl dX5_fillDelays_9 ?_
  refine lv_iload_n hx hb dX5_fillDelays_12 rfl (lv_at hl 0 rfl) ?_
  refine lv_aload_n hx hb dX5_fillDelays_13 rfl (lv_at hl 1 rfl) ?_
  refine va_get (D := D) (ci := 7) (v := .int i3) (C := RX5) (T := TX5) (N := 7) hx hb hts (fun _ h => (List.mem_cons_of_mem _ (List.mem_append_left _ (List.mem_append_left _ (List.mem_append_right _ h))))) hown hK hP 0 rfl rfl 1 (by decide) (hts (.fieldLink RX5 26 "SelfishJunction$Resource" "b" "I") (List.mem_cons_of_mem _ (List.mem_append_left _ (List.mem_append_left _ (List.mem_append_left _ (List.mem_of_getElem? (i := 1) rfl)))))) (fun _ h9 => h9) rfl dX5_fillDelays_14 ?_
  refine lv_aload_n hx hb dX5_fillDelays_17 rfl (lv_at hl 1 rfl) ?_
  refine lv_iload_n hx hb dX5_fillDelays_18 rfl (lv_at hl 0 rfl) ?_
  have hPc := hP.sub (ws' := [(h1, .inr (7, [.int i2, .int i3, .int i4, x5, x6, x7, .ref h8]))]) [0] rfl
  refine va_calli (va_runV (As := [.int 4]) (rest := [.int i3, .int 4, .ref h8]) ⟨hx, hb, hml, hown, hts⟩ (k_X5_grown l D cy h1 4 i2 (.int i3) i4 (x5) (x6) (x7) (.ref h8)) (cwV 1 hts gX5_fillDelays_X5_grown rfl rfl rfl (by decide +kernel) ⟨(Nat.le_of_ble_eq_true rfl), (Nat.le_of_ble_eq_true rfl)⟩) ⟨kR_fb, va_recv hK hP (ci := 7) (q0 := 0) rfl rfl, (kR_go hPc hK)⟩ rfl rfl hl.1 rfl (lv_room (Nat.le_of_ble_eq_true rfl)) dX5_fillDelays_19 ⟨(Nat.le_of_ble_eq_true rfl), (Nat.le_of_ble_eq_true rfl)⟩) hS (fun _ _ h => h.elim) (fun _ h => h.elim) (fun r9 u t H locs ht hvm hw hB hz1 hk1 hS => ?_)
  have hP := kx_kept hP hk1
  generalize r9 = v_11 at hw ⊢
  refine lv_iadd hx hb dX5_fillDelays_22 ?_
  refine lv_topi (fun v_12 ev_12 => ?_)
  refine va_iast hx hb hK hP hD hS 1 1 rfl rfl (kx_in 4 19 rfl ⟨(Nat.le_of_ble_eq_true rfl), (Nat.le_of_ble_eq_true rfl)⟩ (Nat.le_of_ble_eq_true rfl)) dX5_fillDelays_23 (fun H locs hP hD hS => ?_)
  have hP : va_P D vwCl [(h1, .inr (7, [.int i2, .int i3, .int i4, x5, x6, x7, .ref h8])), (h8, .inl (cy 1, 19, .inl (upd (upd (upd (upd g9 1 v_3) 2 v_6) 3 v_9) 4 v_12)))] H := hP
  have hD : va_D A [(h1, .inr (7, [.int i2, .int i3, .int i4, x5, x6, x7, .ref h8])), (h8, .inl (cy 1, 19, .inl (upd (upd (upd (upd g9 1 v_3) 2 v_6) 3 v_9) 4 v_12)))] := hD
  refine lv_iinc (v := 5) (lv' := [(1, .int 5), (0, .ref h1)]) hx hb dX5_fillDelays_24 hl (k := 0) rfl (by decide) (by decide) rfl (fun ls hl => ?_)
  refine lv_goto (tgt := 2) hx hb dX5_fillDelays_27 (by decide) ?_
  refine lv_iload_n hx hb dX5_fillDelays_2 rfl (lv_at hl 0 rfl) ?_
  refine lv_bipush (v := 18) hx hb dX5_fillDelays_3 (by decide) ?_
  refine lv_icmp_gt (tgt := 30) hx hb dX5_fillDelays_5 (by decide) (fun h => absurd h (by decide)) (fun _ => ?_)
  refine lv_aload_n hx hb dX5_fillDelays_8 rfl (lv_at hl 1 rfl) ?_
  refine va_get (D := D) (ci := 7) (v := .ref h8) (C := RX5) (T := TX5) (N := 7) hx hb hts (fun _ h => (List.mem_cons_of_mem _ (List.mem_append_left _ (List.mem_append_left _ (List.mem_append_right _ h))))) hown hK hP 0 rfl rfl 6 (by decide) (hts (.fieldLink RX5 22 "SelfishJunction$Resource" "delays" "[I") (List.mem_cons_of_mem _ (List.mem_append_left _ (List.mem_append_left _ (List.mem_append_left _ (List.mem_of_getElem? (i := 0) rfl)))))) (fun _ h9 => h9) rfl dX5_fillDelays_9 ?_
  refine lv_iload_n hx hb dX5_fillDelays_12 rfl (lv_at hl 0 rfl) ?_
  refine lv_aload_n hx hb dX5_fillDelays_13 rfl (lv_at hl 1 rfl) ?_
  refine va_get (D := D) (ci := 7) (v := .int i3) (C := RX5) (T := TX5) (N := 7) hx hb hts (fun _ h => (List.mem_cons_of_mem _ (List.mem_append_left _ (List.mem_append_left _ (List.mem_append_right _ h))))) hown hK hP 0 rfl rfl 1 (by decide) (hts (.fieldLink RX5 26 "SelfishJunction$Resource" "b" "I") (List.mem_cons_of_mem _ (List.mem_append_left _ (List.mem_append_left _ (List.mem_append_left _ (List.mem_of_getElem? (i := 1) rfl)))))) (fun _ h9 => h9) rfl dX5_fillDelays_14 ?_
  refine lv_aload_n hx hb dX5_fillDelays_17 rfl (lv_at hl 1 rfl) ?_
  refine lv_iload_n hx hb dX5_fillDelays_18 rfl (lv_at hl 0 rfl) ?_
  have hPc := hP.sub (ws' := [(h1, .inr (7, [.int i2, .int i3, .int i4, x5, x6, x7, .ref h8]))]) [0] rfl
  refine va_calli (va_runV (As := [.int 5]) (rest := [.int i3, .int 5, .ref h8]) ⟨hx, hb, hml, hown, hts⟩ (k_X5_grown l D cy h1 5 i2 (.int i3) i4 (x5) (x6) (x7) (.ref h8)) (cwV 1 hts gX5_fillDelays_X5_grown rfl rfl rfl (by decide +kernel) ⟨(Nat.le_of_ble_eq_true rfl), (Nat.le_of_ble_eq_true rfl)⟩) ⟨kR_fb, va_recv hK hP (ci := 7) (q0 := 0) rfl rfl, (kR_go hPc hK)⟩ rfl rfl hl.1 rfl (lv_room (Nat.le_of_ble_eq_true rfl)) dX5_fillDelays_19 ⟨(Nat.le_of_ble_eq_true rfl), (Nat.le_of_ble_eq_true rfl)⟩) hS (fun _ _ h => h.elim) (fun _ h => h.elim) (fun r9 u t H locs ht hvm hw hB hz1 hk1 hS => ?_)
  have hP := kx_kept hP hk1
  generalize r9 = v_14 at hw ⊢
  refine lv_iadd hx hb dX5_fillDelays_22 ?_
  refine lv_topi (fun v_15 ev_15 => ?_)
  refine va_iast hx hb hK hP hD hS 1 1 rfl rfl (kx_in 5 19 rfl ⟨(Nat.le_of_ble_eq_true rfl), (Nat.le_of_ble_eq_true rfl)⟩ (Nat.le_of_ble_eq_true rfl)) dX5_fillDelays_23 (fun H locs hP hD hS => ?_)
  have hP : va_P D vwCl [(h1, .inr (7, [.int i2, .int i3, .int i4, x5, x6, x7, .ref h8])), (h8, .inl (cy 1, 19, .inl (upd (upd (upd (upd (upd g9 1 v_3) 2 v_6) 3 v_9) 4 v_12) 5 v_15)))] H := hP
  have hD : va_D A [(h1, .inr (7, [.int i2, .int i3, .int i4, x5, x6, x7, .ref h8])), (h8, .inl (cy 1, 19, .inl (upd (upd (upd (upd (upd g9 1 v_3) 2 v_6) 3 v_9) 4 v_12) 5 v_15)))] := hD
  refine lv_iinc (v := 6) (lv' := [(1, .int 6), (0, .ref h1)]) hx hb dX5_fillDelays_24 hl (k := 0) rfl (by decide) (by decide) rfl (fun ls hl => ?_)
  refine lv_goto (tgt := 2) hx hb dX5_fillDelays_27 (by decide) ?_
  refine lv_iload_n hx hb dX5_fillDelays_2 rfl (lv_at hl 0 rfl) ?_
  refine lv_bipush (v := 18) hx hb dX5_fillDelays_3 (by decide) ?_
  refine lv_icmp_gt (tgt := 30) hx hb dX5_fillDelays_5 (by decide) (fun h => absurd h (by decide)) (fun _ => ?_)
  refine lv_aload_n hx hb dX5_fillDelays_8 rfl (lv_at hl 1 rfl) ?_
  refine va_get (D := D) (ci := 7) (v := .ref h8) (C := RX5) (T := TX5) (N := 7) hx hb hts (fun _ h => (List.mem_cons_of_mem _ (List.mem_append_left _ (List.mem_append_left _ (List.mem_append_right _ h))))) hown hK hP 0 rfl rfl 6 (by decide) (hts (.fieldLink RX5 22 "SelfishJunction$Resource" "delays" "[I") (List.mem_cons_of_mem _ (List.mem_append_left _ (List.mem_append_left _ (List.mem_append_left _ (List.mem_of_getElem? (i := 0) rfl)))))) (fun _ h9 => h9) rfl dX5_fillDelays_9 ?_
  refine lv_iload_n hx hb dX5_fillDelays_12 rfl (lv_at hl 0 rfl) ?_
  refine lv_aload_n hx hb dX5_fillDelays_13 rfl (lv_at hl 1 rfl) ?_
  refine va_get (D := D) (ci := 7) (v := .int i3) (C := RX5) (T := TX5) (N := 7) hx hb hts (fun _ h => (List.mem_cons_of_mem _ (List.mem_append_left _ (List.mem_append_left _ (List.mem_append_right _ h))))) hown hK hP 0 rfl rfl 1 (by decide) (hts (.fieldLink RX5 26 "SelfishJunction$Resource" "b" "I") (List.mem_cons_of_mem _ (List.mem_append_left _ (List.mem_append_left _ (List.mem_append_left _ (List.mem_of_getElem? (i := 1) rfl)))))) (fun _ h9 => h9) rfl dX5_fillDelays_14 ?_
  refine lv_aload_n hx hb dX5_fillDelays_17 rfl (lv_at hl 1 rfl) ?_
  refine lv_iload_n hx hb dX5_fillDelays_18 rfl (lv_at hl 0 rfl) ?_
  have hPc := hP.sub (ws' := [(h1, .inr (7, [.int i2, .int i3, .int i4, x5, x6, x7, .ref h8]))]) [0] rfl
  refine va_calli (va_runV (As := [.int 6]) (rest := [.int i3, .int 6, .ref h8]) ⟨hx, hb, hml, hown, hts⟩ (k_X5_grown l D cy h1 6 i2 (.int i3) i4 (x5) (x6) (x7) (.ref h8)) (cwV 1 hts gX5_fillDelays_X5_grown rfl rfl rfl (by decide +kernel) ⟨(Nat.le_of_ble_eq_true rfl), (Nat.le_of_ble_eq_true rfl)⟩) ⟨kR_fb, va_recv hK hP (ci := 7) (q0 := 0) rfl rfl, (kR_go hPc hK)⟩ rfl rfl hl.1 rfl (lv_room (Nat.le_of_ble_eq_true rfl)) dX5_fillDelays_19 ⟨(Nat.le_of_ble_eq_true rfl), (Nat.le_of_ble_eq_true rfl)⟩) hS (fun _ _ h => h.elim) (fun _ h => h.elim) (fun r9 u t H locs ht hvm hw hB hz1 hk1 hS => ?_)
  have hP := kx_kept hP hk1
  generalize r9 = v_17 at hw ⊢
  refine lv_iadd hx hb dX5_fillDelays_22 ?_
  refine lv_topi (fun v_18 ev_18 => ?_)
  refine va_iast hx hb hK hP hD hS 1 1 rfl rfl (kx_in 6 19 rfl ⟨(Nat.le_of_ble_eq_true rfl), (Nat.le_of_ble_eq_true rfl)⟩ (Nat.le_of_ble_eq_true rfl)) dX5_fillDelays_23 (fun H locs hP hD hS => ?_)
  have hP : va_P D vwCl [(h1, .inr (7, [.int i2, .int i3, .int i4, x5, x6, x7, .ref h8])), (h8, .inl (cy 1, 19, .inl (upd (upd (upd (upd (upd (upd g9 1 v_3) 2 v_6) 3 v_9) 4 v_12) 5 v_15) 6 v_18)))] H := hP
  have hD : va_D A [(h1, .inr (7, [.int i2, .int i3, .int i4, x5, x6, x7, .ref h8])), (h8, .inl (cy 1, 19, .inl (upd (upd (upd (upd (upd (upd g9 1 v_3) 2 v_6) 3 v_9) 4 v_12) 5 v_15) 6 v_18)))] := hD
  refine lv_iinc (v := 7) (lv' := [(1, .int 7), (0, .ref h1)]) hx hb dX5_fillDelays_24 hl (k := 0) rfl (by decide) (by decide) rfl (fun ls hl => ?_)
  refine lv_goto (tgt := 2) hx hb dX5_fillDelays_27 (by decide) ?_
  refine lv_iload_n hx hb dX5_fillDelays_2 rfl (lv_at hl 0 rfl) ?_
  refine lv_bipush (v := 18) hx hb dX5_fillDelays_3 (by decide) ?_
  refine lv_icmp_gt (tgt := 30) hx hb dX5_fillDelays_5 (by decide) (fun h => absurd h (by decide)) (fun _ => ?_)
  refine lv_aload_n hx hb dX5_fillDelays_8 rfl (lv_at hl 1 rfl) ?_
  refine va_get (D := D) (ci := 7) (v := .ref h8) (C := RX5) (T := TX5) (N := 7) hx hb hts (fun _ h => (List.mem_cons_of_mem _ (List.mem_append_left _ (List.mem_append_left _ (List.mem_append_right _ h))))) hown hK hP 0 rfl rfl 6 (by decide) (hts (.fieldLink RX5 22 "SelfishJunction$Resource" "delays" "[I") (List.mem_cons_of_mem _ (List.mem_append_left _ (List.mem_append_left _ (List.mem_append_left _ (List.mem_of_getElem? (i := 0) rfl)))))) (fun _ h9 => h9) rfl dX5_fillDelays_9 ?_
  refine lv_iload_n hx hb dX5_fillDelays_12 rfl (lv_at hl 0 rfl) ?_
  refine lv_aload_n hx hb dX5_fillDelays_13 rfl (lv_at hl 1 rfl) ?_
  refine va_get (D := D) (ci := 7) (v := .int i3) (C := RX5) (T := TX5) (N := 7) hx hb hts (fun _ h => (List.mem_cons_of_mem _ (List.mem_append_left _ (List.mem_append_left _ (List.mem_append_right _ h))))) hown hK hP 0 rfl rfl 1 (by decide) (hts (.fieldLink RX5 26 "SelfishJunction$Resource" "b" "I") (List.mem_cons_of_mem _ (List.mem_append_left _ (List.mem_append_left _ (List.mem_append_left _ (List.mem_of_getElem? (i := 1) rfl)))))) (fun _ h9 => h9) rfl dX5_fillDelays_14 ?_
  refine lv_aload_n hx hb dX5_fillDelays_17 rfl (lv_at hl 1 rfl) ?_
  refine lv_iload_n hx hb dX5_fillDelays_18 rfl (lv_at hl 0 rfl) ?_
  have hPc := hP.sub (ws' := [(h1, .inr (7, [.int i2, .int i3, .int i4, x5, x6, x7, .ref h8]))]) [0] rfl
  refine va_calli (va_runV (As := [.int 7]) (rest := [.int i3, .int 7, .ref h8]) ⟨hx, hb, hml, hown, hts⟩ (k_X5_grown l D cy h1 7 i2 (.int i3) i4 (x5) (x6) (x7) (.ref h8)) (cwV 1 hts gX5_fillDelays_X5_grown rfl rfl rfl (by decide +kernel) ⟨(Nat.le_of_ble_eq_true rfl), (Nat.le_of_ble_eq_true rfl)⟩) ⟨kR_fb, va_recv hK hP (ci := 7) (q0 := 0) rfl rfl, (kR_go hPc hK)⟩ rfl rfl hl.1 rfl (lv_room (Nat.le_of_ble_eq_true rfl)) dX5_fillDelays_19 ⟨(Nat.le_of_ble_eq_true rfl), (Nat.le_of_ble_eq_true rfl)⟩) hS (fun _ _ h => h.elim) (fun _ h => h.elim) (fun r9 u t H locs ht hvm hw hB hz1 hk1 hS => ?_)
  have hP := kx_kept hP hk1
  generalize r9 = v_20 at hw ⊢
  refine lv_iadd hx hb dX5_fillDelays_22 ?_
  refine lv_topi (fun v_21 ev_21 => ?_)
  refine va_iast hx hb hK hP hD hS 1 1 rfl rfl (kx_in 7 19 rfl ⟨(Nat.le_of_ble_eq_true rfl), (Nat.le_of_ble_eq_true rfl)⟩ (Nat.le_of_ble_eq_true rfl)) dX5_fillDelays_23 (fun H locs hP hD hS => ?_)
  have hP : va_P D vwCl [(h1, .inr (7, [.int i2, .int i3, .int i4, x5, x6, x7, .ref h8])), (h8, .inl (cy 1, 19, .inl (upd (upd (upd (upd (upd (upd (upd g9 1 v_3) 2 v_6) 3 v_9) 4 v_12) 5 v_15) 6 v_18) 7 v_21)))] H := hP
  have hD : va_D A [(h1, .inr (7, [.int i2, .int i3, .int i4, x5, x6, x7, .ref h8])), (h8, .inl (cy 1, 19, .inl (upd (upd (upd (upd (upd (upd (upd g9 1 v_3) 2 v_6) 3 v_9) 4 v_12) 5 v_15) 6 v_18) 7 v_21)))] := hD
  refine lv_iinc (v := 8) (lv' := [(1, .int 8), (0, .ref h1)]) hx hb dX5_fillDelays_24 hl (k := 0) rfl (by decide) (by decide) rfl (fun ls hl => ?_)
  refine lv_goto (tgt := 2) hx hb dX5_fillDelays_27 (by decide) ?_
  refine lv_iload_n hx hb dX5_fillDelays_2 rfl (lv_at hl 0 rfl) ?_
  refine lv_bipush (v := 18) hx hb dX5_fillDelays_3 (by decide) ?_
  refine lv_icmp_gt (tgt := 30) hx hb dX5_fillDelays_5 (by decide) (fun h => absurd h (by decide)) (fun _ => ?_)
  refine lv_aload_n hx hb dX5_fillDelays_8 rfl (lv_at hl 1 rfl) ?_
  refine va_get (D := D) (ci := 7) (v := .ref h8) (C := RX5) (T := TX5) (N := 7) hx hb hts (fun _ h => (List.mem_cons_of_mem _ (List.mem_append_left _ (List.mem_append_left _ (List.mem_append_right _ h))))) hown hK hP 0 rfl rfl 6 (by decide) (hts (.fieldLink RX5 22 "SelfishJunction$Resource" "delays" "[I") (List.mem_cons_of_mem _ (List.mem_append_left _ (List.mem_append_left _ (List.mem_append_left _ (List.mem_of_getElem? (i := 0) rfl)))))) (fun _ h9 => h9) rfl dX5_fillDelays_9 ?_
  refine lv_iload_n hx hb dX5_fillDelays_12 rfl (lv_at hl 0 rfl) ?_
  refine lv_aload_n hx hb dX5_fillDelays_13 rfl (lv_at hl 1 rfl) ?_
  refine va_get (D := D) (ci := 7) (v := .int i3) (C := RX5) (T := TX5) (N := 7) hx hb hts (fun _ h => (List.mem_cons_of_mem _ (List.mem_append_left _ (List.mem_append_left _ (List.mem_append_right _ h))))) hown hK hP 0 rfl rfl 1 (by decide) (hts (.fieldLink RX5 26 "SelfishJunction$Resource" "b" "I") (List.mem_cons_of_mem _ (List.mem_append_left _ (List.mem_append_left _ (List.mem_append_left _ (List.mem_of_getElem? (i := 1) rfl)))))) (fun _ h9 => h9) rfl dX5_fillDelays_14 ?_
  refine lv_aload_n hx hb dX5_fillDelays_17 rfl (lv_at hl 1 rfl) ?_
  refine lv_iload_n hx hb dX5_fillDelays_18 rfl (lv_at hl 0 rfl) ?_
  have hPc := hP.sub (ws' := [(h1, .inr (7, [.int i2, .int i3, .int i4, x5, x6, x7, .ref h8]))]) [0] rfl
  refine va_calli (va_runV (As := [.int 8]) (rest := [.int i3, .int 8, .ref h8]) ⟨hx, hb, hml, hown, hts⟩ (k_X5_grown l D cy h1 8 i2 (.int i3) i4 (x5) (x6) (x7) (.ref h8)) (cwV 1 hts gX5_fillDelays_X5_grown rfl rfl rfl (by decide +kernel) ⟨(Nat.le_of_ble_eq_true rfl), (Nat.le_of_ble_eq_true rfl)⟩) ⟨kR_fb, va_recv hK hP (ci := 7) (q0 := 0) rfl rfl, (kR_go hPc hK)⟩ rfl rfl hl.1 rfl (lv_room (Nat.le_of_ble_eq_true rfl)) dX5_fillDelays_19 ⟨(Nat.le_of_ble_eq_true rfl), (Nat.le_of_ble_eq_true rfl)⟩) hS (fun _ _ h => h.elim) (fun _ h => h.elim) (fun r9 u t H locs ht hvm hw hB hz1 hk1 hS => ?_)
  have hP := kx_kept hP hk1
  generalize r9 = v_23 at hw ⊢
  refine lv_iadd hx hb dX5_fillDelays_22 ?_
  refine lv_topi (fun v_24 ev_24 => ?_)
  refine va_iast hx hb hK hP hD hS 1 1 rfl rfl (kx_in 8 19 rfl ⟨(Nat.le_of_ble_eq_true rfl), (Nat.le_of_ble_eq_true rfl)⟩ (Nat.le_of_ble_eq_true rfl)) dX5_fillDelays_23 (fun H locs hP hD hS => ?_)
  have hP : va_P D vwCl [(h1, .inr (7, [.int i2, .int i3, .int i4, x5, x6, x7, .ref h8])), (h8, .inl (cy 1, 19, .inl (upd (upd (upd (upd (upd (upd (upd (upd g9 1 v_3) 2 v_6) 3 v_9) 4 v_12) 5 v_15) 6 v_18) 7 v_21) 8 v_24)))] H := hP
  have hD : va_D A [(h1, .inr (7, [.int i2, .int i3, .int i4, x5, x6, x7, .ref h8])), (h8, .inl (cy 1, 19, .inl (upd (upd (upd (upd (upd (upd (upd (upd g9 1 v_3) 2 v_6) 3 v_9) 4 v_12) 5 v_15) 6 v_18) 7 v_21) 8 v_24)))] := hD
  refine lv_iinc (v := 9) (lv' := [(1, .int 9), (0, .ref h1)]) hx hb dX5_fillDelays_24 hl (k := 0) rfl (by decide) (by decide) rfl (fun ls hl => ?_)
  refine lv_goto (tgt := 2) hx hb dX5_fillDelays_27 (by decide) ?_
  refine lv_iload_n hx hb dX5_fillDelays_2 rfl (lv_at hl 0 rfl) ?_
  refine lv_bipush (v := 18) hx hb dX5_fillDelays_3 (by decide) ?_
  refine lv_icmp_gt (tgt := 30) hx hb dX5_fillDelays_5 (by decide) (fun h => absurd h (by decide)) (fun _ => ?_)
  refine lv_aload_n hx hb dX5_fillDelays_8 rfl (lv_at hl 1 rfl) ?_
  refine va_get (D := D) (ci := 7) (v := .ref h8) (C := RX5) (T := TX5) (N := 7) hx hb hts (fun _ h => (List.mem_cons_of_mem _ (List.mem_append_left _ (List.mem_append_left _ (List.mem_append_right _ h))))) hown hK hP 0 rfl rfl 6 (by decide) (hts (.fieldLink RX5 22 "SelfishJunction$Resource" "delays" "[I") (List.mem_cons_of_mem _ (List.mem_append_left _ (List.mem_append_left _ (List.mem_append_left _ (List.mem_of_getElem? (i := 0) rfl)))))) (fun _ h9 => h9) rfl dX5_fillDelays_9 ?_
  refine lv_iload_n hx hb dX5_fillDelays_12 rfl (lv_at hl 0 rfl) ?_
  refine lv_aload_n hx hb dX5_fillDelays_13 rfl (lv_at hl 1 rfl) ?_
  refine va_get (D := D) (ci := 7) (v := .int i3) (C := RX5) (T := TX5) (N := 7) hx hb hts (fun _ h => (List.mem_cons_of_mem _ (List.mem_append_left _ (List.mem_append_left _ (List.mem_append_right _ h))))) hown hK hP 0 rfl rfl 1 (by decide) (hts (.fieldLink RX5 26 "SelfishJunction$Resource" "b" "I") (List.mem_cons_of_mem _ (List.mem_append_left _ (List.mem_append_left _ (List.mem_append_left _ (List.mem_of_getElem? (i := 1) rfl)))))) (fun _ h9 => h9) rfl dX5_fillDelays_14 ?_
  refine lv_aload_n hx hb dX5_fillDelays_17 rfl (lv_at hl 1 rfl) ?_
  refine lv_iload_n hx hb dX5_fillDelays_18 rfl (lv_at hl 0 rfl) ?_
  have hPc := hP.sub (ws' := [(h1, .inr (7, [.int i2, .int i3, .int i4, x5, x6, x7, .ref h8]))]) [0] rfl
  refine va_calli (va_runV (As := [.int 9]) (rest := [.int i3, .int 9, .ref h8]) ⟨hx, hb, hml, hown, hts⟩ (k_X5_grown l D cy h1 9 i2 (.int i3) i4 (x5) (x6) (x7) (.ref h8)) (cwV 1 hts gX5_fillDelays_X5_grown rfl rfl rfl (by decide +kernel) ⟨(Nat.le_of_ble_eq_true rfl), (Nat.le_of_ble_eq_true rfl)⟩) ⟨kR_fb, va_recv hK hP (ci := 7) (q0 := 0) rfl rfl, (kR_go hPc hK)⟩ rfl rfl hl.1 rfl (lv_room (Nat.le_of_ble_eq_true rfl)) dX5_fillDelays_19 ⟨(Nat.le_of_ble_eq_true rfl), (Nat.le_of_ble_eq_true rfl)⟩) hS (fun _ _ h => h.elim) (fun _ h => h.elim) (fun r9 u t H locs ht hvm hw hB hz1 hk1 hS => ?_)
  have hP := kx_kept hP hk1
  generalize r9 = v_26 at hw ⊢
  refine lv_iadd hx hb dX5_fillDelays_22 ?_
  refine lv_topi (fun v_27 ev_27 => ?_)
  refine va_iast hx hb hK hP hD hS 1 1 rfl rfl (kx_in 9 19 rfl ⟨(Nat.le_of_ble_eq_true rfl), (Nat.le_of_ble_eq_true rfl)⟩ (Nat.le_of_ble_eq_true rfl)) dX5_fillDelays_23 (fun H locs hP hD hS => ?_)
  have hP : va_P D vwCl [(h1, .inr (7, [.int i2, .int i3, .int i4, x5, x6, x7, .ref h8])), (h8, .inl (cy 1, 19, .inl (upd (upd (upd (upd (upd (upd (upd (upd (upd g9 1 v_3) 2 v_6) 3 v_9) 4 v_12) 5 v_15) 6 v_18) 7 v_21) 8 v_24) 9 v_27)))] H := hP
  have hD : va_D A [(h1, .inr (7, [.int i2, .int i3, .int i4, x5, x6, x7, .ref h8])), (h8, .inl (cy 1, 19, .inl (upd (upd (upd (upd (upd (upd (upd (upd (upd g9 1 v_3) 2 v_6) 3 v_9) 4 v_12) 5 v_15) 6 v_18) 7 v_21) 8 v_24) 9 v_27)))] := hD
  refine lv_iinc (v := 10) (lv' := [(1, .int 10), (0, .ref h1)]) hx hb dX5_fillDelays_24 hl (k := 0) rfl (by decide) (by decide) rfl (fun ls hl => ?_)
  refine lv_goto (tgt := 2) hx hb dX5_fillDelays_27 (by decide) ?_
  refine lv_iload_n hx hb dX5_fillDelays_2 rfl (lv_at hl 0 rfl) ?_
  refine lv_bipush (v := 18) hx hb dX5_fillDelays_3 (by decide) ?_
  refine lv_icmp_gt (tgt := 30) hx hb dX5_fillDelays_5 (by decide) (fun h => absurd h (by decide)) (fun _ => ?_)
  refine lv_aload_n hx hb dX5_fillDelays_8 rfl (lv_at hl 1 rfl) ?_
  refine va_get (D := D) (ci := 7) (v := .ref h8) (C := RX5) (T := TX5) (N := 7) hx hb hts (fun _ h => (List.mem_cons_of_mem _ (List.mem_append_left _ (List.mem_append_left _ (List.mem_append_right _ h))))) hown hK hP 0 rfl rfl 6 (by decide) (hts (.fieldLink RX5 22 "SelfishJunction$Resource" "delays" "[I") (List.mem_cons_of_mem _ (List.mem_append_left _ (List.mem_append_left _ (List.mem_append_left _ (List.mem_of_getElem? (i := 0) rfl)))))) (fun _ h9 => h9) rfl dX5_fillDelays_9 ?_
  refine lv_iload_n hx hb dX5_fillDelays_12 rfl (lv_at hl 0 rfl) ?_
  refine lv_aload_n hx hb dX5_fillDelays_13 rfl (lv_at hl 1 rfl) ?_
  refine va_get (D := D) (ci := 7) (v := .int i3) (C := RX5) (T := TX5) (N := 7) hx hb hts (fun _ h => (List.mem_cons_of_mem _ (List.mem_append_left _ (List.mem_append_left _ (List.mem_append_right _ h))))) hown hK hP 0 rfl rfl 1 (by decide) (hts (.fieldLink RX5 26 "SelfishJunction$Resource" "b" "I") (List.mem_cons_of_mem _ (List.mem_append_left _ (List.mem_append_left _ (List.mem_append_left _ (List.mem_of_getElem? (i := 1) rfl)))))) (fun _ h9 => h9) rfl dX5_fillDelays_14 ?_
  refine lv_aload_n hx hb dX5_fillDelays_17 rfl (lv_at hl 1 rfl) ?_
  refine lv_iload_n hx hb dX5_fillDelays_18 rfl (lv_at hl 0 rfl) ?_
  have hPc := hP.sub (ws' := [(h1, .inr (7, [.int i2, .int i3, .int i4, x5, x6, x7, .ref h8]))]) [0] rfl
  refine va_calli (va_runV (As := [.int 10]) (rest := [.int i3, .int 10, .ref h8]) ⟨hx, hb, hml, hown, hts⟩ (k_X5_grown l D cy h1 10 i2 (.int i3) i4 (x5) (x6) (x7) (.ref h8)) (cwV 1 hts gX5_fillDelays_X5_grown rfl rfl rfl (by decide +kernel) ⟨(Nat.le_of_ble_eq_true rfl), (Nat.le_of_ble_eq_true rfl)⟩) ⟨kR_fb, va_recv hK hP (ci := 7) (q0 := 0) rfl rfl, (kR_go hPc hK)⟩ rfl rfl hl.1 rfl (lv_room (Nat.le_of_ble_eq_true rfl)) dX5_fillDelays_19 ⟨(Nat.le_of_ble_eq_true rfl), (Nat.le_of_ble_eq_true rfl)⟩) hS (fun _ _ h => h.elim) (fun _ h => h.elim) (fun r9 u t H locs ht hvm hw hB hz1 hk1 hS => ?_)
  have hP := kx_kept hP hk1
  generalize r9 = v_29 at hw ⊢
  refine lv_iadd hx hb dX5_fillDelays_22 ?_
  refine lv_topi (fun v_30 ev_30 => ?_)
  refine va_iast hx hb hK hP hD hS 1 1 rfl rfl (kx_in 10 19 rfl ⟨(Nat.le_of_ble_eq_true rfl), (Nat.le_of_ble_eq_true rfl)⟩ (Nat.le_of_ble_eq_true rfl)) dX5_fillDelays_23 (fun H locs hP hD hS => ?_)
  have hP : va_P D vwCl [(h1, .inr (7, [.int i2, .int i3, .int i4, x5, x6, x7, .ref h8])), (h8, .inl (cy 1, 19, .inl (upd (upd (upd (upd (upd (upd (upd (upd (upd (upd g9 1 v_3) 2 v_6) 3 v_9) 4 v_12) 5 v_15) 6 v_18) 7 v_21) 8 v_24) 9 v_27) 10 v_30)))] H := hP
  have hD : va_D A [(h1, .inr (7, [.int i2, .int i3, .int i4, x5, x6, x7, .ref h8])), (h8, .inl (cy 1, 19, .inl (upd (upd (upd (upd (upd (upd (upd (upd (upd (upd g9 1 v_3) 2 v_6) 3 v_9) 4 v_12) 5 v_15) 6 v_18) 7 v_21) 8 v_24) 9 v_27) 10 v_30)))] := hD
  refine lv_iinc (v := 11) (lv' := [(1, .int 11), (0, .ref h1)]) hx hb dX5_fillDelays_24 hl (k := 0) rfl (by decide) (by decide) rfl (fun ls hl => ?_)
  refine lv_goto (tgt := 2) hx hb dX5_fillDelays_27 (by decide) ?_
  refine lv_iload_n hx hb dX5_fillDelays_2 rfl (lv_at hl 0 rfl) ?_
  refine lv_bipush (v := 18) hx hb dX5_fillDelays_3 (by decide) ?_
  refine lv_icmp_gt (tgt := 30) hx hb dX5_fillDelays_5 (by decide) (fun h => absurd h (by decide)) (fun _ => ?_)
  refine lv_aload_n hx hb dX5_fillDelays_8 rfl (lv_at hl 1 rfl) ?_
  refine va_get (D := D) (ci := 7) (v := .ref h8) (C := RX5) (T := TX5) (N := 7) hx hb hts (fun _ h => (List.mem_cons_of_mem _ (List.mem_append_left _ (List.mem_append_left _ (List.mem_append_right _ h))))) hown hK hP 0 rfl rfl 6 (by decide) (hts (.fieldLink RX5 22 "SelfishJunction$Resource" "delays" "[I") (List.mem_cons_of_mem _ (List.mem_append_left _ (List.mem_append_left _ (List.mem_append_left _ (List.mem_of_getElem? (i := 0) rfl)))))) (fun _ h9 => h9) rfl dX5_fillDelays_9 ?_
  refine lv_iload_n hx hb dX5_fillDelays_12 rfl (lv_at hl 0 rfl) ?_
  refine lv_aload_n hx hb dX5_fillDelays_13 rfl (lv_at hl 1 rfl) ?_
  refine va_get (D := D) (ci := 7) (v := .int i3) (C := RX5) (T := TX5) (N := 7) hx hb hts (fun _ h => (List.mem_cons_of_mem _ (List.mem_append_left _ (List.mem_append_left _ (List.mem_append_right _ h))))) hown hK hP 0 rfl rfl 1 (by decide) (hts (.fieldLink RX5 26 "SelfishJunction$Resource" "b" "I") (List.mem_cons_of_mem _ (List.mem_append_left _ (List.mem_append_left _ (List.mem_append_left _ (List.mem_of_getElem? (i := 1) rfl)))))) (fun _ h9 => h9) rfl dX5_fillDelays_14 ?_
  refine lv_aload_n hx hb dX5_fillDelays_17 rfl (lv_at hl 1 rfl) ?_
  refine lv_iload_n hx hb dX5_fillDelays_18 rfl (lv_at hl 0 rfl) ?_
  have hPc := hP.sub (ws' := [(h1, .inr (7, [.int i2, .int i3, .int i4, x5, x6, x7, .ref h8]))]) [0] rfl
  refine va_calli (va_runV (As := [.int 11]) (rest := [.int i3, .int 11, .ref h8]) ⟨hx, hb, hml, hown, hts⟩ (k_X5_grown l D cy h1 11 i2 (.int i3) i4 (x5) (x6) (x7) (.ref h8)) (cwV 1 hts gX5_fillDelays_X5_grown rfl rfl rfl (by decide +kernel) ⟨(Nat.le_of_ble_eq_true rfl), (Nat.le_of_ble_eq_true rfl)⟩) ⟨kR_fb, va_recv hK hP (ci := 7) (q0 := 0) rfl rfl, (kR_go hPc hK)⟩ rfl rfl hl.1 rfl (lv_room (Nat.le_of_ble_eq_true rfl)) dX5_fillDelays_19 ⟨(Nat.le_of_ble_eq_true rfl), (Nat.le_of_ble_eq_true rfl)⟩) hS (fun _ _ h => h.elim) (fun _ h => h.elim) (fun r9 u t H locs ht hvm hw hB hz1 hk1 hS => ?_)
  have hP := kx_kept hP hk1
  generalize r9 = v_32 at hw ⊢
  refine lv_iadd hx hb dX5_fillDelays_22 ?_
  refine lv_topi (fun v_33 ev_33 => ?_)
  refine va_iast hx hb hK hP hD hS 1 1 rfl rfl (kx_in 11 19 rfl ⟨(Nat.le_of_ble_eq_true rfl), (Nat.le_of_ble_eq_true rfl)⟩ (Nat.le_of_ble_eq_true rfl)) dX5_fillDelays_23 (fun H locs hP hD hS => ?_)
  have hP : va_P D vwCl [(h1, .inr (7, [.int i2, .int i3, .int i4, x5, x6, x7, .ref h8])), (h8, .inl (cy 1, 19, .inl (upd (upd (upd (upd (upd (upd (upd (upd (upd (upd (upd g9 1 v_3) 2 v_6) 3 v_9) 4 v_12) 5 v_15) 6 v_18) 7 v_21) 8 v_24) 9 v_27) 10 v_30) 11 v_33)))] H := hP
  have hD : va_D A [(h1, .inr (7, [.int i2, .int i3, .int i4, x5, x6, x7, .ref h8])), (h8, .inl (cy 1, 19, .inl (upd (upd (upd (upd (upd (upd (upd (upd (upd (upd (upd g9 1 v_3) 2 v_6) 3 v_9) 4 v_12) 5 v_15) 6 v_18) 7 v_21) 8 v_24) 9 v_27) 10 v_30) 11 v_33)))] := hD
  refine lv_iinc (v := 12) (lv' := [(1, .int 12), (0, .ref h1)]) hx hb dX5_fillDelays_24 hl (k := 0) rfl (by decide) (by decide) rfl (fun ls hl => ?_)
  refine lv_goto (tgt := 2) hx hb dX5_fillDelays_27 (by decide) ?_
  refine lv_iload_n hx hb dX5_fillDelays_2 rfl (lv_at hl 0 rfl) ?_
  refine lv_bipush (v := 18) hx hb dX5_fillDelays_3 (by decide) ?_
  refine lv_icmp_gt (tgt := 30) hx hb dX5_fillDelays_5 (by decide) (fun h => absurd h (by decide)) (fun _ => ?_)
  refine lv_aload_n hx hb dX5_fillDelays_8 rfl (lv_at hl 1 rfl) ?_
  refine va_get (D := D) (ci := 7) (v := .ref h8) (C := RX5) (T := TX5) (N := 7) hx hb hts (fun _ h => (List.mem_cons_of_mem _ (List.mem_append_left _ (List.mem_append_left _ (List.mem_append_right _ h))))) hown hK hP 0 rfl rfl 6 (by decide) (hts (.fieldLink RX5 22 "SelfishJunction$Resource" "delays" "[I") (List.mem_cons_of_mem _ (List.mem_append_left _ (List.mem_append_left _ (List.mem_append_left _ (List.mem_of_getElem? (i := 0) rfl)))))) (fun _ h9 => h9) rfl dX5_fillDelays_9 ?_
  refine lv_iload_n hx hb dX5_fillDelays_12 rfl (lv_at hl 0 rfl) ?_
  refine lv_aload_n hx hb dX5_fillDelays_13 rfl (lv_at hl 1 rfl) ?_
  refine va_get (D := D) (ci := 7) (v := .int i3) (C := RX5) (T := TX5) (N := 7) hx hb hts (fun _ h => (List.mem_cons_of_mem _ (List.mem_append_left _ (List.mem_append_left _ (List.mem_append_right _ h))))) hown hK hP 0 rfl rfl 1 (by decide) (hts (.fieldLink RX5 26 "SelfishJunction$Resource" "b" "I") (List.mem_cons_of_mem _ (List.mem_append_left _ (List.mem_append_left _ (List.mem_append_left _ (List.mem_of_getElem? (i := 1) rfl)))))) (fun _ h9 => h9) rfl dX5_fillDelays_14 ?_
  refine lv_aload_n hx hb dX5_fillDelays_17 rfl (lv_at hl 1 rfl) ?_
  refine lv_iload_n hx hb dX5_fillDelays_18 rfl (lv_at hl 0 rfl) ?_
  have hPc := hP.sub (ws' := [(h1, .inr (7, [.int i2, .int i3, .int i4, x5, x6, x7, .ref h8]))]) [0] rfl
  refine va_calli (va_runV (As := [.int 12]) (rest := [.int i3, .int 12, .ref h8]) ⟨hx, hb, hml, hown, hts⟩ (k_X5_grown l D cy h1 12 i2 (.int i3) i4 (x5) (x6) (x7) (.ref h8)) (cwV 1 hts gX5_fillDelays_X5_grown rfl rfl rfl (by decide +kernel) ⟨(Nat.le_of_ble_eq_true rfl), (Nat.le_of_ble_eq_true rfl)⟩) ⟨kR_fb, va_recv hK hP (ci := 7) (q0 := 0) rfl rfl, (kR_go hPc hK)⟩ rfl rfl hl.1 rfl (lv_room (Nat.le_of_ble_eq_true rfl)) dX5_fillDelays_19 ⟨(Nat.le_of_ble_eq_true rfl), (Nat.le_of_ble_eq_true rfl)⟩) hS (fun _ _ h => h.elim) (fun _ h => h.elim) (fun r9 u t H locs ht hvm hw hB hz1 hk1 hS => ?_)
  have hP := kx_kept hP hk1
  generalize r9 = v_35 at hw ⊢
  refine lv_iadd hx hb dX5_fillDelays_22 ?_
  refine lv_topi (fun v_36 ev_36 => ?_)
  refine va_iast hx hb hK hP hD hS 1 1 rfl rfl (kx_in 12 19 rfl ⟨(Nat.le_of_ble_eq_true rfl), (Nat.le_of_ble_eq_true rfl)⟩ (Nat.le_of_ble_eq_true rfl)) dX5_fillDelays_23 (fun H locs hP hD hS => ?_)
  have hP : va_P D vwCl [(h1, .inr (7, [.int i2, .int i3, .int i4, x5, x6, x7, .ref h8])), (h8, .inl (cy 1, 19, .inl (upd (upd (upd (upd (upd (upd (upd (upd (upd (upd (upd (upd g9 1 v_3) 2 v_6) 3 v_9) 4 v_12) 5 v_15) 6 v_18) 7 v_21) 8 v_24) 9 v_27) 10 v_30) 11 v_33) 12 v_36)))] H := hP
  have hD : va_D A [(h1, .inr (7, [.int i2, .int i3, .int i4, x5, x6, x7, .ref h8])), (h8, .inl (cy 1, 19, .inl (upd (upd (upd (upd (upd (upd (upd (upd (upd (upd (upd (upd g9 1 v_3) 2 v_6) 3 v_9) 4 v_12) 5 v_15) 6 v_18) 7 v_21) 8 v_24) 9 v_27) 10 v_30) 11 v_33) 12 v_36)))] := hD
  refine lv_iinc (v := 13) (lv' := [(1, .int 13), (0, .ref h1)]) hx hb dX5_fillDelays_24 hl (k := 0) rfl (by decide) (by decide) rfl (fun ls hl => ?_)
  refine lv_goto (tgt := 2) hx hb dX5_fillDelays_27 (by decide) ?_
  refine lv_iload_n hx hb dX5_fillDelays_2 rfl (lv_at hl 0 rfl) ?_
  refine lv_bipush (v := 18) hx hb dX5_fillDelays_3 (by decide) ?_
  refine lv_icmp_gt (tgt := 30) hx hb dX5_fillDelays_5 (by decide) (fun h => absurd h (by decide)) (fun _ => ?_)
  refine lv_aload_n hx hb dX5_fillDelays_8 rfl (lv_at hl 1 rfl) ?_
  refine va_get (D := D) (ci := 7) (v := .ref h8) (C := RX5) (T := TX5) (N := 7) hx hb hts (fun _ h => (List.mem_cons_of_mem _ (List.mem_append_left _ (List.mem_append_left _ (List.mem_append_right _ h))))) hown hK hP 0 rfl rfl 6 (by decide) (hts (.fieldLink RX5 22 "SelfishJunction$Resource" "delays" "[I") (List.mem_cons_of_mem _ (List.mem_append_left _ (List.mem_append_left _ (List.mem_append_left _ (List.mem_of_getElem? (i := 0) rfl)))))) (fun _ h9 => h9) rfl dX5_fillDelays_9 ?_
  refine lv_iload_n hx hb dX5_fillDelays_12 rfl (lv_at hl 0 rfl) ?_
  refine lv_aload_n hx hb dX5_fillDelays_13 rfl (lv_at hl 1 rfl) ?_
  refine va_get (D := D) (ci := 7) (v := .int i3) (C := RX5) (T := TX5) (N := 7) hx hb hts (fun _ h => (List.mem_cons_of_mem _ (List.mem_append_left _ (List.mem_append_left _ (List.mem_append_right _ h))))) hown hK hP 0 rfl rfl 1 (by decide) (hts (.fieldLink RX5 26 "SelfishJunction$Resource" "b" "I") (List.mem_cons_of_mem _ (List.mem_append_left _ (List.mem_append_left _ (List.mem_append_left _ (List.mem_of_getElem? (i := 1) rfl)))))) (fun _ h9 => h9) rfl dX5_fillDelays_14 ?_
  refine lv_aload_n hx hb dX5_fillDelays_17 rfl (lv_at hl 1 rfl) ?_
  refine lv_iload_n hx hb dX5_fillDelays_18 rfl (lv_at hl 0 rfl) ?_
  have hPc := hP.sub (ws' := [(h1, .inr (7, [.int i2, .int i3, .int i4, x5, x6, x7, .ref h8]))]) [0] rfl
  refine va_calli (va_runV (As := [.int 13]) (rest := [.int i3, .int 13, .ref h8]) ⟨hx, hb, hml, hown, hts⟩ (k_X5_grown l D cy h1 13 i2 (.int i3) i4 (x5) (x6) (x7) (.ref h8)) (cwV 1 hts gX5_fillDelays_X5_grown rfl rfl rfl (by decide +kernel) ⟨(Nat.le_of_ble_eq_true rfl), (Nat.le_of_ble_eq_true rfl)⟩) ⟨kR_fb, va_recv hK hP (ci := 7) (q0 := 0) rfl rfl, (kR_go hPc hK)⟩ rfl rfl hl.1 rfl (lv_room (Nat.le_of_ble_eq_true rfl)) dX5_fillDelays_19 ⟨(Nat.le_of_ble_eq_true rfl), (Nat.le_of_ble_eq_true rfl)⟩) hS (fun _ _ h => h.elim) (fun _ h => h.elim) (fun r9 u t H locs ht hvm hw hB hz1 hk1 hS => ?_)
  have hP := kx_kept hP hk1
  generalize r9 = v_38 at hw ⊢
  refine lv_iadd hx hb dX5_fillDelays_22 ?_
  refine lv_topi (fun v_39 ev_39 => ?_)
  refine va_iast hx hb hK hP hD hS 1 1 rfl rfl (kx_in 13 19 rfl ⟨(Nat.le_of_ble_eq_true rfl), (Nat.le_of_ble_eq_true rfl)⟩ (Nat.le_of_ble_eq_true rfl)) dX5_fillDelays_23 (fun H locs hP hD hS => ?_)
  have hP : va_P D vwCl [(h1, .inr (7, [.int i2, .int i3, .int i4, x5, x6, x7, .ref h8])), (h8, .inl (cy 1, 19, .inl (upd (upd (upd (upd (upd (upd (upd (upd (upd (upd (upd (upd (upd g9 1 v_3) 2 v_6) 3 v_9) 4 v_12) 5 v_15) 6 v_18) 7 v_21) 8 v_24) 9 v_27) 10 v_30) 11 v_33) 12 v_36) 13 v_39)))] H := hP
  have hD : va_D A [(h1, .inr (7, [.int i2, .int i3, .int i4, x5, x6, x7, .ref h8])), (h8, .inl (cy 1, 19, .inl (upd (upd (upd (upd (upd (upd (upd (upd (upd (upd (upd (upd (upd g9 1 v_3) 2 v_6) 3 v_9) 4 v_12) 5 v_15) 6 v_18) 7 v_21) 8 v_24) 9 v_27) 10 v_30) 11 v_33) 12 v_36) 13 v_39)))] := hD
  refine lv_iinc (v := 14) (lv' := [(1, .int 14), (0, .ref h1)]) hx hb dX5_fillDelays_24 hl (k := 0) rfl (by decide) (by decide) rfl (fun ls hl => ?_)
  refine lv_goto (tgt := 2) hx hb dX5_fillDelays_27 (by decide) ?_
  refine lv_iload_n hx hb dX5_fillDelays_2 rfl (lv_at hl 0 rfl) ?_
  refine lv_bipush (v := 18) hx hb dX5_fillDelays_3 (by decide) ?_
  refine lv_icmp_gt (tgt := 30) hx hb dX5_fillDelays_5 (by decide) (fun h => absurd h (by decide)) (fun _ => ?_)
  refine lv_aload_n hx hb dX5_fillDelays_8 rfl (lv_at hl 1 rfl) ?_
  refine va_get (D := D) (ci := 7) (v := .ref h8) (C := RX5) (T := TX5) (N := 7) hx hb hts (fun _ h => (List.mem_cons_of_mem _ (List.mem_append_left _ (List.mem_append_left _ (List.mem_append_right _ h))))) hown hK hP 0 rfl rfl 6 (by decide) (hts (.fieldLink RX5 22 "SelfishJunction$Resource" "delays" "[I") (List.mem_cons_of_mem _ (List.mem_append_left _ (List.mem_append_left _ (List.mem_append_left _ (List.mem_of_getElem? (i := 0) rfl)))))) (fun _ h9 => h9) rfl dX5_fillDelays_9 ?_
  refine lv_iload_n hx hb dX5_fillDelays_12 rfl (lv_at hl 0 rfl) ?_
  refine lv_aload_n hx hb dX5_fillDelays_13 rfl (lv_at hl 1 rfl) ?_
  refine va_get (D := D) (ci := 7) (v := .int i3) (C := RX5) (T := TX5) (N := 7) hx hb hts (fun _ h => (List.mem_cons_of_mem _ (List.mem_append_left _ (List.mem_append_left _ (List.mem_append_right _ h))))) hown hK hP 0 rfl rfl 1 (by decide) (hts (.fieldLink RX5 26 "SelfishJunction$Resource" "b" "I") (List.mem_cons_of_mem _ (List.mem_append_left _ (List.mem_append_left _ (List.mem_append_left _ (List.mem_of_getElem? (i := 1) rfl)))))) (fun _ h9 => h9) rfl dX5_fillDelays_14 ?_
  refine lv_aload_n hx hb dX5_fillDelays_17 rfl (lv_at hl 1 rfl) ?_
  refine lv_iload_n hx hb dX5_fillDelays_18 rfl (lv_at hl 0 rfl) ?_
  have hPc := hP.sub (ws' := [(h1, .inr (7, [.int i2, .int i3, .int i4, x5, x6, x7, .ref h8]))]) [0] rfl
  refine va_calli (va_runV (As := [.int 14]) (rest := [.int i3, .int 14, .ref h8]) ⟨hx, hb, hml, hown, hts⟩ (k_X5_grown l D cy h1 14 i2 (.int i3) i4 (x5) (x6) (x7) (.ref h8)) (cwV 1 hts gX5_fillDelays_X5_grown rfl rfl rfl (by decide +kernel) ⟨(Nat.le_of_ble_eq_true rfl), (Nat.le_of_ble_eq_true rfl)⟩) ⟨kR_fb, va_recv hK hP (ci := 7) (q0 := 0) rfl rfl, (kR_go hPc hK)⟩ rfl rfl hl.1 rfl (lv_room (Nat.le_of_ble_eq_true rfl)) dX5_fillDelays_19 ⟨(Nat.le_of_ble_eq_true rfl), (Nat.le_of_ble_eq_true rfl)⟩) hS (fun _ _ h => h.elim) (fun _ h => h.elim) (fun r9 u t H locs ht hvm hw hB hz1 hk1 hS => ?_)
  have hP := kx_kept hP hk1
  generalize r9 = v_41 at hw ⊢
  refine lv_iadd hx hb dX5_fillDelays_22 ?_
  refine lv_topi (fun v_42 ev_42 => ?_)
  refine va_iast hx hb hK hP hD hS 1 1 rfl rfl (kx_in 14 19 rfl ⟨(Nat.le_of_ble_eq_true rfl), (Nat.le_of_ble_eq_true rfl)⟩ (Nat.le_of_ble_eq_true rfl)) dX5_fillDelays_23 (fun H locs hP hD hS => ?_)
  have hP : va_P D vwCl [(h1, .inr (7, [.int i2, .int i3, .int i4, x5, x6, x7, .ref h8])), (h8, .inl (cy 1, 19, .inl (upd (upd (upd (upd (upd (upd (upd (upd (upd (upd (upd (upd (upd (upd g9 1 v_3) 2 v_6) 3 v_9) 4 v_12) 5 v_15) 6 v_18) 7 v_21) 8 v_24) 9 v_27) 10 v_30) 11 v_33) 12 v_36) 13 v_39) 14 v_42)))] H := hP
  have hD : va_D A [(h1, .inr (7, [.int i2, .int i3, .int i4, x5, x6, x7, .ref h8])), (h8, .inl (cy 1, 19, .inl (upd (upd (upd (upd (upd (upd (upd (upd (upd (upd (upd (upd (upd (upd g9 1 v_3) 2 v_6) 3 v_9) 4 v_12) 5 v_15) 6 v_18) 7 v_21) 8 v_24) 9 v_27) 10 v_30) 11 v_33) 12 v_36) 13 v_39) 14 v_42)))] := hD
  refine lv_iinc (v := 15) (lv' := [(1, .int 15), (0, .ref h1)]) hx hb dX5_fillDelays_24 hl (k := 0) rfl (by decide) (by decide) rfl (fun ls hl => ?_)
  refine lv_goto (tgt := 2) hx hb dX5_fillDelays_27 (by decide) ?_
  refine lv_iload_n hx hb dX5_fillDelays_2 rfl (lv_at hl 0 rfl) ?_
  refine lv_bipush (v := 18) hx hb dX5_fillDelays_3 (by decide) ?_
  refine lv_icmp_gt (tgt := 30) hx hb dX5_fillDelays_5 (by decide) (fun h => absurd h (by decide)) (fun _ => ?_)
  refine lv_aload_n hx hb dX5_fillDelays_8 rfl (lv_at hl 1 rfl) ?_
  refine va_get (D := D) (ci := 7) (v := .ref h8) (C := RX5) (T := TX5) (N := 7) hx hb hts (fun _ h => (List.mem_cons_of_mem _ (List.mem_append_left _ (List.mem_append_left _ (List.mem_append_right _ h))))) hown hK hP 0 rfl rfl 6 (by decide) (hts (.fieldLink RX5 22 "SelfishJunction$Resource" "delays" "[I") (List.mem_cons_of_mem _ (List.mem_append_left _ (List.mem_append_left _ (List.mem_append_left _ (List.mem_of_getElem? (i := 0) rfl)))))) (fun _ h9 => h9) rfl dX5_fillDelays_9 ?_
  refine lv_iload_n hx hb dX5_fillDelays_12 rfl (lv_at hl 0 rfl) ?_
  refine lv_aload_n hx hb dX5_fillDelays_13 rfl (lv_at hl 1 rfl) ?_
  refine va_get (D := D) (ci := 7) (v := .int i3) (C := RX5) (T := TX5) (N := 7) hx hb hts (fun _ h => (List.mem_cons_of_mem _ (List.mem_append_left _ (List.mem_append_left _ (List.mem_append_right _ h))))) hown hK hP 0 rfl rfl 1 (by decide) (hts (.fieldLink RX5 26 "SelfishJunction$Resource" "b" "I") (List.mem_cons_of_mem _ (List.mem_append_left _ (List.mem_append_left _ (List.mem_append_left _ (List.mem_of_getElem? (i := 1) rfl)))))) (fun _ h9 => h9) rfl dX5_fillDelays_14 ?_
  refine lv_aload_n hx hb dX5_fillDelays_17 rfl (lv_at hl 1 rfl) ?_
  refine lv_iload_n hx hb dX5_fillDelays_18 rfl (lv_at hl 0 rfl) ?_
  have hPc := hP.sub (ws' := [(h1, .inr (7, [.int i2, .int i3, .int i4, x5, x6, x7, .ref h8]))]) [0] rfl
  refine va_calli (va_runV (As := [.int 15]) (rest := [.int i3, .int 15, .ref h8]) ⟨hx, hb, hml, hown, hts⟩ (k_X5_grown l D cy h1 15 i2 (.int i3) i4 (x5) (x6) (x7) (.ref h8)) (cwV 1 hts gX5_fillDelays_X5_grown rfl rfl rfl (by decide +kernel) ⟨(Nat.le_of_ble_eq_true rfl), (Nat.le_of_ble_eq_true rfl)⟩) ⟨kR_fb, va_recv hK hP (ci := 7) (q0 := 0) rfl rfl, (kR_go hPc hK)⟩ rfl rfl hl.1 rfl (lv_room (Nat.le_of_ble_eq_true rfl)) dX5_fillDelays_19 ⟨(Nat.le_of_ble_eq_true rfl), (Nat.le_of_ble_eq_true rfl)⟩) hS (fun _ _ h => h.elim) (fun _ h => h.elim) (fun r9 u t H locs ht hvm hw hB hz1 hk1 hS => ?_)
  have hP := kx_kept hP hk1
  generalize r9 = v_44 at hw ⊢
  refine lv_iadd hx hb dX5_fillDelays_22 ?_
  refine lv_topi (fun v_45 ev_45 => ?_)
  refine va_iast hx hb hK hP hD hS 1 1 rfl rfl (kx_in 15 19 rfl ⟨(Nat.le_of_ble_eq_true rfl), (Nat.le_of_ble_eq_true rfl)⟩ (Nat.le_of_ble_eq_true rfl)) dX5_fillDelays_23 (fun H locs hP hD hS => ?_)
  have hP : va_P D vwCl [(h1, .inr (7, [.int i2, .int i3, .int i4, x5, x6, x7, .ref h8])), (h8, .inl (cy 1, 19, .inl (upd (upd (upd (upd (upd (upd (upd (upd (upd (upd (upd (upd (upd (upd (upd g9 1 v_3) 2 v_6) 3 v_9) 4 v_12) 5 v_15) 6 v_18) 7 v_21) 8 v_24) 9 v_27) 10 v_30) 11 v_33) 12 v_36) 13 v_39) 14 v_42) 15 v_45)))] H := hP
  have hD : va_D A [(h1, .inr (7, [.int i2, .int i3, .int i4, x5, x6, x7, .ref h8])), (h8, .inl (cy 1, 19, .inl (upd (upd (upd (upd (upd (upd (upd (upd (upd (upd (upd (upd (upd (upd (upd g9 1 v_3) 2 v_6) 3 v_9) 4 v_12) 5 v_15) 6 v_18) 7 v_21) 8 v_24) 9 v_27) 10 v_30) 11 v_33) 12 v_36) 13 v_39) 14 v_42) 15 v_45)))] := hD
  refine lv_iinc (v := 16) (lv' := [(1, .int 16), (0, .ref h1)]) hx hb dX5_fillDelays_24 hl (k := 0) rfl (by decide) (by decide) rfl (fun ls hl => ?_)
  refine lv_goto (tgt := 2) hx hb dX5_fillDelays_27 (by decide) ?_
  refine lv_iload_n hx hb dX5_fillDelays_2 rfl (lv_at hl 0 rfl) ?_
  refine lv_bipush (v := 18) hx hb dX5_fillDelays_3 (by decide) ?_
  refine lv_icmp_gt (tgt := 30) hx hb dX5_fillDelays_5 (by decide) (fun h => absurd h (by decide)) (fun _ => ?_)
  refine lv_aload_n hx hb dX5_fillDelays_8 rfl (lv_at hl 1 rfl) ?_
  refine va_get (D := D) (ci := 7) (v := .ref h8) (C := RX5) (T := TX5) (N := 7) hx hb hts (fun _ h => (List.mem_cons_of_mem _ (List.mem_append_left _ (List.mem_append_left _ (List.mem_append_right _ h))))) hown hK hP 0 rfl rfl 6 (by decide) (hts (.fieldLink RX5 22 "SelfishJunction$Resource" "delays" "[I") (List.mem_cons_of_mem _ (List.mem_append_left _ (List.mem_append_left _ (List.mem_append_left _ (List.mem_of_getElem? (i := 0) rfl)))))) (fun _ h9 => h9) rfl dX5_fillDelays_9 ?_
  refine lv_iload_n hx hb dX5_fillDelays_12 rfl (lv_at hl 0 rfl) ?_
  refine lv_aload_n hx hb dX5_fillDelays_13 rfl (lv_at hl 1 rfl) ?_
  refine va_get (D := D) (ci := 7) (v := .int i3) (C := RX5) (T := TX5) (N := 7) hx hb hts (fun _ h => (List.mem_cons_of_mem _ (List.mem_append_left _ (List.mem_append_left _ (List.mem_append_right _ h))))) hown hK hP 0 rfl rfl 1 (by decide) (hts (.fieldLink RX5 26 "SelfishJunction$Resource" "b" "I") (List.mem_cons_of_mem _ (List.mem_append_left _ (List.mem_append_left _ (List.mem_append_left _ (List.mem_of_getElem? (i := 1) rfl)))))) (fun _ h9 => h9) rfl dX5_fillDelays_14 ?_
  refine lv_aload_n hx hb dX5_fillDelays_17 rfl (lv_at hl 1 rfl) ?_
  refine lv_iload_n hx hb dX5_fillDelays_18 rfl (lv_at hl 0 rfl) ?_
  have hPc := hP.sub (ws' := [(h1, .inr (7, [.int i2, .int i3, .int i4, x5, x6, x7, .ref h8]))]) [0] rfl
  refine va_calli (va_runV (As := [.int 16]) (rest := [.int i3, .int 16, .ref h8]) ⟨hx, hb, hml, hown, hts⟩ (k_X5_grown l D cy h1 16 i2 (.int i3) i4 (x5) (x6) (x7) (.ref h8)) (cwV 1 hts gX5_fillDelays_X5_grown rfl rfl rfl (by decide +kernel) ⟨(Nat.le_of_ble_eq_true rfl), (Nat.le_of_ble_eq_true rfl)⟩) ⟨kR_fb, va_recv hK hP (ci := 7) (q0 := 0) rfl rfl, (kR_go hPc hK)⟩ rfl rfl hl.1 rfl (lv_room (Nat.le_of_ble_eq_true rfl)) dX5_fillDelays_19 ⟨(Nat.le_of_ble_eq_true rfl), (Nat.le_of_ble_eq_true rfl)⟩) hS (fun _ _ h => h.elim) (fun _ h => h.elim) (fun r9 u t H locs ht hvm hw hB hz1 hk1 hS => ?_)
  have hP := kx_kept hP hk1
  generalize r9 = v_47 at hw ⊢
  refine lv_iadd hx hb dX5_fillDelays_22 ?_
  refine lv_topi (fun v_48 ev_48 => ?_)
  refine va_iast hx hb hK hP hD hS 1 1 rfl rfl (kx_in 16 19 rfl ⟨(Nat.le_of_ble_eq_true rfl), (Nat.le_of_ble_eq_true rfl)⟩ (Nat.le_of_ble_eq_true rfl)) dX5_fillDelays_23 (fun H locs hP hD hS => ?_)
  have hP : va_P D vwCl [(h1, .inr (7, [.int i2, .int i3, .int i4, x5, x6, x7, .ref h8])), (h8, .inl (cy 1, 19, .inl (upd (upd (upd (upd (upd (upd (upd (upd (upd (upd (upd (upd (upd (upd (upd (upd g9 1 v_3) 2 v_6) 3 v_9) 4 v_12) 5 v_15) 6 v_18) 7 v_21) 8 v_24) 9 v_27) 10 v_30) 11 v_33) 12 v_36) 13 v_39) 14 v_42) 15 v_45) 16 v_48)))] H := hP
  have hD : va_D A [(h1, .inr (7, [.int i2, .int i3, .int i4, x5, x6, x7, .ref h8])), (h8, .inl (cy 1, 19, .inl (upd (upd (upd (upd (upd (upd (upd (upd (upd (upd (upd (upd (upd (upd (upd (upd g9 1 v_3) 2 v_6) 3 v_9) 4 v_12) 5 v_15) 6 v_18) 7 v_21) 8 v_24) 9 v_27) 10 v_30) 11 v_33) 12 v_36) 13 v_39) 14 v_42) 15 v_45) 16 v_48)))] := hD
  refine lv_iinc (v := 17) (lv' := [(1, .int 17), (0, .ref h1)]) hx hb dX5_fillDelays_24 hl (k := 0) rfl (by decide) (by decide) rfl (fun ls hl => ?_)
  refine lv_goto (tgt := 2) hx hb dX5_fillDelays_27 (by decide) ?_
  refine lv_iload_n hx hb dX5_fillDelays_2 rfl (lv_at hl 0 rfl) ?_
  refine lv_bipush (v := 18) hx hb dX5_fillDelays_3 (by decide) ?_
  refine lv_icmp_gt (tgt := 30) hx hb dX5_fillDelays_5 (by decide) (fun h => absurd h (by decide)) (fun _ => ?_)
  refine lv_aload_n hx hb dX5_fillDelays_8 rfl (lv_at hl 1 rfl) ?_
  refine va_get (D := D) (ci := 7) (v := .ref h8) (C := RX5) (T := TX5) (N := 7) hx hb hts (fun _ h => (List.mem_cons_of_mem _ (List.mem_append_left _ (List.mem_append_left _ (List.mem_append_right _ h))))) hown hK hP 0 rfl rfl 6 (by decide) (hts (.fieldLink RX5 22 "SelfishJunction$Resource" "delays" "[I") (List.mem_cons_of_mem _ (List.mem_append_left _ (List.mem_append_left _ (List.mem_append_left _ (List.mem_of_getElem? (i := 0) rfl)))))) (fun _ h9 => h9) rfl dX5_fillDelays_9 ?_
  refine lv_iload_n hx hb dX5_fillDelays_12 rfl (lv_at hl 0 rfl) ?_
  refine lv_aload_n hx hb dX5_fillDelays_13 rfl (lv_at hl 1 rfl) ?_
  refine va_get (D := D) (ci := 7) (v := .int i3) (C := RX5) (T := TX5) (N := 7) hx hb hts (fun _ h => (List.mem_cons_of_mem _ (List.mem_append_left _ (List.mem_append_left _ (List.mem_append_right _ h))))) hown hK hP 0 rfl rfl 1 (by decide) (hts (.fieldLink RX5 26 "SelfishJunction$Resource" "b" "I") (List.mem_cons_of_mem _ (List.mem_append_left _ (List.mem_append_left _ (List.mem_append_left _ (List.mem_of_getElem? (i := 1) rfl)))))) (fun _ h9 => h9) rfl dX5_fillDelays_14 ?_
  refine lv_aload_n hx hb dX5_fillDelays_17 rfl (lv_at hl 1 rfl) ?_
  refine lv_iload_n hx hb dX5_fillDelays_18 rfl (lv_at hl 0 rfl) ?_
  have hPc := hP.sub (ws' := [(h1, .inr (7, [.int i2, .int i3, .int i4, x5, x6, x7, .ref h8]))]) [0] rfl
  refine va_calli (va_runV (As := [.int 17]) (rest := [.int i3, .int 17, .ref h8]) ⟨hx, hb, hml, hown, hts⟩ (k_X5_grown l D cy h1 17 i2 (.int i3) i4 (x5) (x6) (x7) (.ref h8)) (cwV 1 hts gX5_fillDelays_X5_grown rfl rfl rfl (by decide +kernel) ⟨(Nat.le_of_ble_eq_true rfl), (Nat.le_of_ble_eq_true rfl)⟩) ⟨kR_fb, va_recv hK hP (ci := 7) (q0 := 0) rfl rfl, (kR_go hPc hK)⟩ rfl rfl hl.1 rfl (lv_room (Nat.le_of_ble_eq_true rfl)) dX5_fillDelays_19 ⟨(Nat.le_of_ble_eq_true rfl), (Nat.le_of_ble_eq_true rfl)⟩) hS (fun _ _ h => h.elim) (fun _ h => h.elim) (fun r9 u t H locs ht hvm hw hB hz1 hk1 hS => ?_)
  have hP := kx_kept hP hk1
  generalize r9 = v_50 at hw ⊢
  refine lv_iadd hx hb dX5_fillDelays_22 ?_
  refine lv_topi (fun v_51 ev_51 => ?_)
  refine va_iast hx hb hK hP hD hS 1 1 rfl rfl (kx_in 17 19 rfl ⟨(Nat.le_of_ble_eq_true rfl), (Nat.le_of_ble_eq_true rfl)⟩ (Nat.le_of_ble_eq_true rfl)) dX5_fillDelays_23 (fun H locs hP hD hS => ?_)
  have hP : va_P D vwCl [(h1, .inr (7, [.int i2, .int i3, .int i4, x5, x6, x7, .ref h8])), (h8, .inl (cy 1, 19, .inl (upd (upd (upd (upd (upd (upd (upd (upd (upd (upd (upd (upd (upd (upd (upd (upd (upd g9 1 v_3) 2 v_6) 3 v_9) 4 v_12) 5 v_15) 6 v_18) 7 v_21) 8 v_24) 9 v_27) 10 v_30) 11 v_33) 12 v_36) 13 v_39) 14 v_42) 15 v_45) 16 v_48) 17 v_51)))] H := hP
  have hD : va_D A [(h1, .inr (7, [.int i2, .int i3, .int i4, x5, x6, x7, .ref h8])), (h8, .inl (cy 1, 19, .inl (upd (upd (upd (upd (upd (upd (upd (upd (upd (upd (upd (upd (upd (upd (upd (upd (upd g9 1 v_3) 2 v_6) 3 v_9) 4 v_12) 5 v_15) 6 v_18) 7 v_21) 8 v_24) 9 v_27) 10 v_30) 11 v_33) 12 v_36) 13 v_39) 14 v_42) 15 v_45) 16 v_48) 17 v_51)))] := hD
  refine lv_iinc (v := 18) (lv' := [(1, .int 18), (0, .ref h1)]) hx hb dX5_fillDelays_24 hl (k := 0) rfl (by decide) (by decide) rfl (fun ls hl => ?_)
  refine lv_goto (tgt := 2) hx hb dX5_fillDelays_27 (by decide) ?_
  refine lv_iload_n hx hb dX5_fillDelays_2 rfl (lv_at hl 0 rfl) ?_
  refine lv_bipush (v := 18) hx hb dX5_fillDelays_3 (by decide) ?_
  refine lv_icmp_gt (tgt := 30) hx hb dX5_fillDelays_5 (by decide) (fun h => absurd h (by decide)) (fun _ => ?_)
  refine lv_aload_n hx hb dX5_fillDelays_8 rfl (lv_at hl 1 rfl) ?_
  refine va_get (D := D) (ci := 7) (v := .ref h8) (C := RX5) (T := TX5) (N := 7) hx hb hts (fun _ h => (List.mem_cons_of_mem _ (List.mem_append_left _ (List.mem_append_left _ (List.mem_append_right _ h))))) hown hK hP 0 rfl rfl 6 (by decide) (hts (.fieldLink RX5 22 "SelfishJunction$Resource" "delays" "[I") (List.mem_cons_of_mem _ (List.mem_append_left _ (List.mem_append_left _ (List.mem_append_left _ (List.mem_of_getElem? (i := 0) rfl)))))) (fun _ h9 => h9) rfl dX5_fillDelays_9 ?_
  refine lv_iload_n hx hb dX5_fillDelays_12 rfl (lv_at hl 0 rfl) ?_
  refine lv_aload_n hx hb dX5_fillDelays_13 rfl (lv_at hl 1 rfl) ?_
  refine va_get (D := D) (ci := 7) (v := .int i3) (C := RX5) (T := TX5) (N := 7) hx hb hts (fun _ h => (List.mem_cons_of_mem _ (List.mem_append_left _ (List.mem_append_left _ (List.mem_append_right _ h))))) hown hK hP 0 rfl rfl 1 (by decide) (hts (.fieldLink RX5 26 "SelfishJunction$Resource" "b" "I") (List.mem_cons_of_mem _ (List.mem_append_left _ (List.mem_append_left _ (List.mem_append_left _ (List.mem_of_getElem? (i := 1) rfl)))))) (fun _ h9 => h9) rfl dX5_fillDelays_14 ?_
  refine lv_aload_n hx hb dX5_fillDelays_17 rfl (lv_at hl 1 rfl) ?_
  refine lv_iload_n hx hb dX5_fillDelays_18 rfl (lv_at hl 0 rfl) ?_
  have hPc := hP.sub (ws' := [(h1, .inr (7, [.int i2, .int i3, .int i4, x5, x6, x7, .ref h8]))]) [0] rfl
  refine va_calli (va_runV (As := [.int 18]) (rest := [.int i3, .int 18, .ref h8]) ⟨hx, hb, hml, hown, hts⟩ (k_X5_grown l D cy h1 18 i2 (.int i3) i4 (x5) (x6) (x7) (.ref h8)) (cwV 1 hts gX5_fillDelays_X5_grown rfl rfl rfl (by decide +kernel) ⟨(Nat.le_of_ble_eq_true rfl), (Nat.le_of_ble_eq_true rfl)⟩) ⟨kR_fb, va_recv hK hP (ci := 7) (q0 := 0) rfl rfl, (kR_go hPc hK)⟩ rfl rfl hl.1 rfl (lv_room (Nat.le_of_ble_eq_true rfl)) dX5_fillDelays_19 ⟨(Nat.le_of_ble_eq_true rfl), (Nat.le_of_ble_eq_true rfl)⟩) hS (fun _ _ h => h.elim) (fun _ h => h.elim) (fun r9 u t H locs ht hvm hw hB hz1 hk1 hS => ?_)
  have hP := kx_kept hP hk1
  generalize r9 = v_53 at hw ⊢
  refine lv_iadd hx hb dX5_fillDelays_22 ?_
  refine lv_topi (fun v_54 ev_54 => ?_)
  refine va_iast hx hb hK hP hD hS 1 1 rfl rfl (kx_in 18 19 rfl ⟨(Nat.le_of_ble_eq_true rfl), (Nat.le_of_ble_eq_true rfl)⟩ (Nat.le_of_ble_eq_true rfl)) dX5_fillDelays_23 (fun H locs hP hD hS => ?_)
  have hP : va_P D vwCl [(h1, .inr (7, [.int i2, .int i3, .int i4, x5, x6, x7, .ref h8])), (h8, .inl (cy 1, 19, .inl (upd (upd (upd (upd (upd (upd (upd (upd (upd (upd (upd (upd (upd (upd (upd (upd (upd (upd g9 1 v_3) 2 v_6) 3 v_9) 4 v_12) 5 v_15) 6 v_18) 7 v_21) 8 v_24) 9 v_27) 10 v_30) 11 v_33) 12 v_36) 13 v_39) 14 v_42) 15 v_45) 16 v_48) 17 v_51) 18 v_54)))] H := hP
  have hD : va_D A [(h1, .inr (7, [.int i2, .int i3, .int i4, x5, x6, x7, .ref h8])), (h8, .inl (cy 1, 19, .inl (upd (upd (upd (upd (upd (upd (upd (upd (upd (upd (upd (upd (upd (upd (upd (upd (upd (upd g9 1 v_3) 2 v_6) 3 v_9) 4 v_12) 5 v_15) 6 v_18) 7 v_21) 8 v_24) 9 v_27) 10 v_30) 11 v_33) 12 v_36) 13 v_39) 14 v_42) 15 v_45) 16 v_48) 17 v_51) 18 v_54)))] := hD
  refine lv_iinc (v := 19) (lv' := [(1, .int 19), (0, .ref h1)]) hx hb dX5_fillDelays_24 hl (k := 0) rfl (by decide) (by decide) rfl (fun ls hl => ?_)
  refine lv_goto (tgt := 2) hx hb dX5_fillDelays_27 (by decide) ?_
  refine lv_iload_n hx hb dX5_fillDelays_2 rfl (lv_at hl 0 rfl) ?_
  refine lv_bipush (v := 18) hx hb dX5_fillDelays_3 (by decide) ?_
  refine lv_icmp_gt (tgt := 30) hx hb dX5_fillDelays_5 (by decide) (fun _ => ?_) (fun h => absurd (by decide) h)
  refine W.widen (k := 0) (n := 0) (Nat.le_of_ble_eq_true rfl) (Nat.le_of_ble_eq_true rfl) ?_
  have hP9 := hP.sub (ws' := [(h1, .inr (7, [.int i2, .int i3, .int i4, x5, x6, x7, .ref h8])), (h8, .inl (cy 1, 19, .inl (upd (upd (upd (upd (upd (upd (upd (upd (upd (upd (upd (upd (upd (upd (upd (upd (upd (upd g9 1 v_3) 2 v_6) 3 v_9) 4 v_12) 5 v_15) 6 v_18) 7 v_21) 8 v_24) 9 v_27) 10 v_30) 11 v_33) 12 v_36) 13 v_39) 14 v_42) 15 v_45) 16 v_48) 17 v_51) 18 v_54)))]) [0, 1] rfl
  have hD9 := hD.sub (ws' := [(h1, .inr (7, [.int i2, .int i3, .int i4, x5, x6, x7, .ref h8])), (h8, .inl (cy 1, 19, .inl (upd (upd (upd (upd (upd (upd (upd (upd (upd (upd (upd (upd (upd (upd (upd (upd (upd (upd g9 1 v_3) 2 v_6) 3 v_9) 4 v_12) 5 v_15) 6 v_18) 7 v_21) 8 v_24) 9 v_27) 10 v_30) 11 v_33) 12 v_36) 13 v_39) 14 v_42) 15 v_45) 16 v_48) 17 v_51) 18 v_54)))]) [0, 1] (by decide) rfl
  exact W.vret hx hb hr (fun t ht hW => ⟨⟨((upd (upd (upd (upd (upd (upd (upd (upd (upd (upd (upd (upd (upd (upd (upd (upd (upd (upd g9 1 v_3) 2 v_6) 3 v_9) 4 v_12) 5 v_15) 6 v_18) 7 v_21) 8 v_24) 9 v_27) 10 v_30) 11 v_33) 12 v_36) 13 v_39) 14 v_42) 15 v_45) 16 v_48) 17 v_51) 18 v_54)), rfl, trivial, ⟨by rw [ht]; exact hP9, hD9⟩⟩, hS.F ht⟩) hS.2.2 dX5_fillDelays_30
theorem dX0_putResource_0 : decode cX0_putResource 0 = .ok (.aload_n 0, 1) := by decide +kernel
theorem dX0_putResource_1 : decode cX0_putResource 1 = .ok (.getfield 25, 3) := by decide +kernel
theorem dX0_putResource_4 : decode cX0_putResource 4 = .ok (.istore 4, 2) := by decide +kernel
theorem dX0_putResource_6 : decode cX0_putResource 6 = .ok (.aload_n 0, 1) := by decide +kernel
theorem dX0_putResource_7 : decode cX0_putResource 7 = .ok (.getfield 11, 3) := by decide +kernel
theorem dX0_putResource_10 : decode cX0_putResource 10 = .ok (.iload 4, 2) := by decide +kernel
theorem dX0_putResource_12 : decode cX0_putResource 12 = .ok (.aaload, 1) := by decide +kernel
theorem dX0_putResource_13 : decode cX0_putResource 13 = .ok (.iload_n 1, 1) := by decide +kernel
theorem dX0_putResource_14 : decode cX0_putResource 14 = .ok (.putfield 29, 3) := by decide +kernel
theorem dX0_putResource_17 : decode cX0_putResource 17 = .ok (.aload_n 0, 1) := by decide +kernel
theorem dX0_putResource_18 : decode cX0_putResource 18 = .ok (.getfield 11, 3) := by decide +kernel
theorem dX0_putResource_21 : decode cX0_putResource 21 = .ok (.iload 4, 2) := by decide +kernel
theorem dX0_putResource_23 : decode cX0_putResource 23 = .ok (.aaload, 1) := by decide +kernel
theorem dX0_putResource_24 : decode cX0_putResource 24 = .ok (.iload_n 2, 1) := by decide +kernel
theorem dX0_putResource_25 : decode cX0_putResource 25 = .ok (.putfield 33, 3) := by decide +kernel
theorem dX0_putResource_28 : decode cX0_putResource 28 = .ok (.aload_n 0, 1) := by decide +kernel
theorem dX0_putResource_29 : decode cX0_putResource 29 = .ok (.getfield 11, 3) := by decide +kernel
theorem dX0_putResource_32 : decode cX0_putResource 32 = .ok (.iload 4, 2) := by decide +kernel
theorem dX0_putResource_34 : decode cX0_putResource 34 = .ok (.aaload, 1) := by decide +kernel
theorem dX0_putResource_35 : decode cX0_putResource 35 = .ok (.iload_n 3, 1) := by decide +kernel
theorem dX0_putResource_36 : decode cX0_putResource 36 = .ok (.putfield 36, 3) := by decide +kernel
theorem dX0_putResource_39 : decode cX0_putResource 39 = .ok (.aload_n 0, 1) := by decide +kernel
theorem dX0_putResource_40 : decode cX0_putResource 40 = .ok (.getfield 11, 3) := by decide +kernel
theorem dX0_putResource_43 : decode cX0_putResource 43 = .ok (.iload 4, 2) := by decide +kernel
theorem dX0_putResource_45 : decode cX0_putResource 45 = .ok (.aaload, 1) := by decide +kernel
theorem dX0_putResource_46 : decode cX0_putResource 46 = .ok (.invokevirtual 39, 3) := by decide +kernel
set_option maxRecDepth 20000 in
theorem ggX0_putResource_X5_fillDelays : GoodIn wsX0_putResource wsX5_fillDelays := goodIn_ca (goodIn_ca (goodIn_r _ [10, 11, 12, 13, 14, 15, 9, 16, 17, 18, 23, 24, 25, 26, 27, 28, 29] (by decide +kernel) (by decide +kernel)) (goodIn_sub (fun _ h => List.mem_cons_of_mem _ (List.mem_append_left _ (List.mem_append_right _ h))) (by decide +kernel))) (goodIn_sub (fun _ h => List.mem_cons_of_mem _ (List.mem_append_right _ h)) (by decide +kernel))
set_option maxRecDepth 20000 in
theorem gX0_putResource_X5_fillDelays : GoodIn wsX0_putResource (wsV RX0 39 RX5 yX5_fillDelays wsX5_fillDelays) := goodIn_app (goodIn_of _ (by decide +kernel)) ggX0_putResource_X5_fillDelays
theorem dX0_putResource_49 : decode cX0_putResource 49 = .ok (.aload_n 0, 1) := by decide +kernel
theorem dX0_putResource_50 : decode cX0_putResource 50 = .ok (.dup, 1) := by decide +kernel
theorem dX0_putResource_51 : decode cX0_putResource 51 = .ok (.getfield 25, 3) := by decide +kernel
theorem dX0_putResource_54 : decode cX0_putResource 54 = .ok (.iconst 1, 1) := by decide +kernel
theorem dX0_putResource_55 : decode cX0_putResource 55 = .ok (.iadd, 1) := by decide +kernel
theorem dX0_putResource_56 : decode cX0_putResource 56 = .ok (.putfield 25, 3) := by decide +kernel
theorem dX0_putResource_59 : decode cX0_putResource 59 = .ok (.iload 4, 2) := by decide +kernel
theorem dX0_putResource_61 : decode cX0_putResource 61 = .ok (.ireturn, 1) := by decide +kernel
set_option maxHeartbeats 4000000 in
set_option maxRecDepth 100000 in
theorem k_X0_putResource (l : Launch) (D : va_G) (cy : Nat → ClassId) (h1 : Nat) (p0 : Int32) (p1 : Int32) (p2 : Int32) (h2 : Nat) (x3 : Value) (x4 : Value) (g5 : Nat → Option Nat) (h6 : Nat) (kg5_0 : g5 0 = some h6) (x7 : Value) (x8 : Value) (x9 : Value) (h10 : Nat) (g11 : Nat → Int32) (hpre : ((0 : Int) ≤ p0.toInt ∧ p0.toInt ≤ (65535 : Int))) (sz : Nat) : Met l yX0_putResource wsX0_putResource ({ frames := 2, cells := 0, slots := 0, locals := 42 }) (kW D cy [.ref h1, .int p0, .int p1, .int p2] [(h1, .inr (2, [.ref h2, x3, .int 0, x4])), (h2, .inl (cy 5, 8, .inr (.inr (.inr (.inr g5))))), (h6, .inr (7, [.int 0, .int 0, .int 99, x7, x8, x9, .ref h10])), (h10, .inl (cy 1, 19, .inl g11))] sz) (va_Qi (fun (r : Int32) (u : (Nat → Int32)) => match u with | u1 => r = 0 ∧ True) (fun (u : (Nat → Int32)) (t : State) => match u with | u1 => va_P D vwCl [(h1, .inr (2, [.ref h2, x3, .int 1, x4])), (h2, .inl (cy 5, 8, .inr (.inr (.inr (.inr g5))))), (h6, .inr (7, [.int p1, .int p2, .int p0, x7, x8, x9, .ref h10])), (h10, .inl (cy 1, 19, .inl u1))] t.heap ∧ va_D (va_A [(h1, .inr (2, [.ref h2, x3, .int 0, x4])), (h2, .inl (cy 5, 8, .inr (.inr (.inr (.inr g5))))), (h6, .inr (7, [.int 0, .int 0, .int 99, x7, x8, x9, .ref h10])), (h10, .inl (cy 1, 19, .inl g11))] sz) [(h1, .inr (2, [.ref h2, x3, .int 1, x4])), (h2, .inl (cy 5, 8, .inr (.inr (.inr (.inr g5))))), (h6, .inr (7, [.int p1, .int p2, .int p0, x7, x8, x9, .ref h10])), (h10, .inl (cy 1, 19, .inl u1))]) (va_A [(h1, .inr (2, [.ref h2, x3, .int 0, x4])), (h2, .inl (cy 5, 8, .inr (.inr (.inr (.inr g5))))), (h6, .inr (7, [.int 0, .int 0, .int 99, x7, x8, x9, .ref h10])), (h10, .inl (cy 1, 19, .inl g11))] sz)) 0 0 (va_A [(h1, .inr (2, [.ref h2, x3, .int 0, x4])), (h2, .inl (cy 5, 8, .inr (.inr (.inr (.inr g5))))), (h6, .inr (7, [.int 0, .int 0, .int 99, x7, x8, x9, .ref h10])), (h10, .inl (cy 1, 19, .inl g11))] sz) := by
  refine Met.ofW (cc := cX0_putResource) (maxL := 5) (ret := (some .int)) (by decide) rfl ?_
  intro p e s m args below meth c s₁ B hml hv
  obtain ⟨rfl, hsz, hP, hK, hD0⟩ := hv
  have hx := B.exec
  have hb := B.bytes
  have hr := B.returns
  have hts := atoms_spec (ws := wsX0_putResource) B.pre
  have hown : s.vm.findClass RX0 = some m.cls := findClass_of_methodNamed B.named
  have hlocks := B.notSynchronized
  subst hsz
  have hD := hD0.self (sz := s.heap.size)
  generalize hAe : va_A [(h1, .inr (2, [.ref h2, x3, .int 0, x4])), (h2, .inl (cy 5, 8, .inr (.inr (.inr (.inr g5))))), (h6, .inr (7, [.int 0, .int 0, .int 99, x7, x8, x9, .ref h10])), (h10, .inl (cy 1, 19, .inl g11))] s.heap.size = A at hD ⊢
  have hA : ∀ q : Nat, s.heap.size ≤ q → A q := fun q h => by rw [← hAe]; exact Or.inr h
  have hS : va_S A s.heap s.heap [] := va_S.rf
  have hP : va_P D vwCl [(h1, .inr (2, [.ref h2, x3, .int 0, x4])), (h2, .inl (cy 5, 8, .inr (.inr (.inr (.inr g5))))), (h6, .inr (7, [.int 0, .int 0, .int 99, x7, x8, x9, .ref h10])), (h10, .inl (cy 1, 19, .inl g11))] s.heap := hP
  have hl := lv_entry ([.ref h1, .int p0, .int p1, .int p2]) (n := 5) (Nat.le_of_ble_eq_true rfl)
  rw [lg_entry_eq]
  generalize (lg_sl ([.ref h1, .int p0, .int p1, .int p2]) ++ List.replicate (5 - (lg_sl ([.ref h1, .int p0, .int p1, .int p2])).length) Slot.unset).toArray = ls at hl ⊢
  have hl : lv_has ls 5 [(0, .ref h1), (1, .int p0), (2, .int p1), (3, .int p2)] := hl
  refine lv_aload_n hx hb dX0_putResource_0 rfl (lv_at hl 0 rfl) ?_
  refine va_get (D := D) (ci := 2) (v := .int 0) (C := RX0) (T := TX0) (N := 4) hx hb hts (fun _ h => (List.mem_cons_of_mem _ (List.mem_append_left _ (List.mem_append_left _ (List.mem_append_left _ (List.mem_append_right _ h)))))) hown hK hP 0 rfl rfl 2 (by decide) (hts (.fieldLink RX0 25 "SelfishJunction$Board" "resourceCount" "I") (List.mem_cons_of_mem _ (List.mem_append_left _ (List.mem_append_left _ (List.mem_append_left _ (List.mem_append_left _ (List.mem_of_getElem? (i := 0) rfl))))))) (fun _ h9 => h9) rfl dX0_putResource_1 ?_
  refine lv_istore (lv' := [(4, .int 0), (0, .ref h1), (1, .int p0), (2, .int p1), (3, .int p2)]) hx hb dX0_putResource_4 hl (by decide) rfl (fun ls hl => ?_)
  refine lv_aload_n hx hb dX0_putResource_6 rfl (lv_at hl 1 rfl) ?_
  refine va_get (D := D) (ci := 2) (v := .ref h2) (C := RX0) (T := TX0) (N := 4) hx hb hts (fun _ h => (List.mem_cons_of_mem _ (List.mem_append_left _ (List.mem_append_left _ (List.mem_append_left _ (List.mem_append_right _ h)))))) hown hK hP 0 rfl rfl 0 (by decide) (hts (.fieldLink RX0 11 "SelfishJunction$Board" "resources" "[LSelfishJunction$Resource;") (List.mem_cons_of_mem _ (List.mem_append_left _ (List.mem_append_left _ (List.mem_append_left _ (List.mem_append_left _ (List.mem_of_getElem? (i := 1) rfl))))))) (fun _ h9 => h9) rfl dX0_putResource_7 ?_
  refine lv_iload hx hb dX0_putResource_10 (lv_at hl 0 rfl) ?_
  refine va_aldq hx hb hK hP 1 5 rfl rfl (kx_in 0 8 rfl ⟨(Nat.le_of_ble_eq_true rfl), (Nat.le_of_ble_eq_true rfl)⟩ (Nat.le_of_ble_eq_true rfl)) dX0_putResource_12 ?_
  refine kx_rf (a := h6) (kg5_0) ?_
  refine lv_iload_n hx hb dX0_putResource_13 rfl (lv_at hl 2 rfl) ?_
  refine va_put (D := D) (ci := 7) (v := .int p0) (ty := .char) (C := RX5) (T := TX5) (N := 7) hx hb hts (fun _ h => (List.mem_cons_of_mem _ (List.mem_append_left _ (List.mem_append_left _ (List.mem_append_right _ h))))) tyX5 tyX5_ok nmX5 hown hK hP hD hS 2 rfl rfl 2 (by decide) (hts (.fieldLink RX0 29 "SelfishJunction$Resource" "kind" "C") (List.mem_cons_of_mem _ (List.mem_append_left _ (List.mem_append_left _ (List.mem_append_left _ (List.mem_append_left _ (List.mem_of_getElem? (i := 2) rfl))))))) (fun _ h9 => h9) rfl (by decide +kernel) (kx_chr p0 (by omega) (by omega)).1 (kx_chr p0 (by omega) (by omega)).2 (Nat.le_of_ble_eq_true rfl) dX0_putResource_14 (fun H locs hP hD hS => ?_)
  have hP : va_P D vwCl [(h1, .inr (2, [.ref h2, x3, .int 0, x4])), (h2, .inl (cy 5, 8, .inr (.inr (.inr (.inr g5))))), (h6, .inr (7, [.int 0, .int 0, .int p0, x7, x8, x9, .ref h10])), (h10, .inl (cy 1, 19, .inl g11))] H := hP
  have hD : va_D A [(h1, .inr (2, [.ref h2, x3, .int 0, x4])), (h2, .inl (cy 5, 8, .inr (.inr (.inr (.inr g5))))), (h6, .inr (7, [.int 0, .int 0, .int p0, x7, x8, x9, .ref h10])), (h10, .inl (cy 1, 19, .inl g11))] := hD
  refine lv_aload_n hx hb dX0_putResource_17 rfl (lv_at hl 1 rfl) ?_
  refine va_get (D := D) (ci := 2) (v := .ref h2) (C := RX0) (T := TX0) (N := 4) hx hb hts (fun _ h => (List.mem_cons_of_mem _ (List.mem_append_left _ (List.mem_append_left _ (List.mem_append_left _ (List.mem_append_right _ h)))))) hown hK hP 0 rfl rfl 0 (by decide) (hts (.fieldLink RX0 11 "SelfishJunction$Board" "resources" "[LSelfishJunction$Resource;") (List.mem_cons_of_mem _ (List.mem_append_left _ (List.mem_append_left _ (List.mem_append_left _ (List.mem_append_left _ (List.mem_of_getElem? (i := 1) rfl))))))) (fun _ h9 => h9) rfl dX0_putResource_18 ?_
  refine lv_iload hx hb dX0_putResource_21 (lv_at hl 0 rfl) ?_
  refine va_aldq hx hb hK hP 1 5 rfl rfl (kx_in 0 8 rfl ⟨(Nat.le_of_ble_eq_true rfl), (Nat.le_of_ble_eq_true rfl)⟩ (Nat.le_of_ble_eq_true rfl)) dX0_putResource_23 ?_
  refine kx_rf (a := h6) (kg5_0) ?_
  refine lv_iload_n hx hb dX0_putResource_24 rfl (lv_at hl 3 rfl) ?_
  refine va_put (D := D) (ci := 7) (v := .int p1) (ty := .int) (C := RX5) (T := TX5) (N := 7) hx hb hts (fun _ h => (List.mem_cons_of_mem _ (List.mem_append_left _ (List.mem_append_left _ (List.mem_append_right _ h))))) tyX5 tyX5_ok nmX5 hown hK hP hD hS 2 rfl rfl 0 (by decide) (hts (.fieldLink RX0 33 "SelfishJunction$Resource" "a" "I") (List.mem_cons_of_mem _ (List.mem_append_left _ (List.mem_append_left _ (List.mem_append_left _ (List.mem_append_left _ (List.mem_of_getElem? (i := 3) rfl))))))) (fun _ h9 => h9) rfl (by decide +kernel) rfl rfl (Nat.le_of_ble_eq_true rfl) dX0_putResource_25 (fun H locs hP hD hS => ?_)
  have hP : va_P D vwCl [(h1, .inr (2, [.ref h2, x3, .int 0, x4])), (h2, .inl (cy 5, 8, .inr (.inr (.inr (.inr g5))))), (h6, .inr (7, [.int p1, .int 0, .int p0, x7, x8, x9, .ref h10])), (h10, .inl (cy 1, 19, .inl g11))] H := hP
  have hD : va_D A [(h1, .inr (2, [.ref h2, x3, .int 0, x4])), (h2, .inl (cy 5, 8, .inr (.inr (.inr (.inr g5))))), (h6, .inr (7, [.int p1, .int 0, .int p0, x7, x8, x9, .ref h10])), (h10, .inl (cy 1, 19, .inl g11))] := hD
  refine lv_aload_n hx hb dX0_putResource_28 rfl (lv_at hl 1 rfl) ?_
  refine va_get (D := D) (ci := 2) (v := .ref h2) (C := RX0) (T := TX0) (N := 4) hx hb hts (fun _ h => (List.mem_cons_of_mem _ (List.mem_append_left _ (List.mem_append_left _ (List.mem_append_left _ (List.mem_append_right _ h)))))) hown hK hP 0 rfl rfl 0 (by decide) (hts (.fieldLink RX0 11 "SelfishJunction$Board" "resources" "[LSelfishJunction$Resource;") (List.mem_cons_of_mem _ (List.mem_append_left _ (List.mem_append_left _ (List.mem_append_left _ (List.mem_append_left _ (List.mem_of_getElem? (i := 1) rfl))))))) (fun _ h9 => h9) rfl dX0_putResource_29 ?_
  refine lv_iload hx hb dX0_putResource_32 (lv_at hl 0 rfl) ?_
  refine va_aldq hx hb hK hP 1 5 rfl rfl (kx_in 0 8 rfl ⟨(Nat.le_of_ble_eq_true rfl), (Nat.le_of_ble_eq_true rfl)⟩ (Nat.le_of_ble_eq_true rfl)) dX0_putResource_34 ?_
  refine kx_rf (a := h6) (kg5_0) ?_
  refine lv_iload_n hx hb dX0_putResource_35 rfl (lv_at hl 4 rfl) ?_
  refine va_put (D := D) (ci := 7) (v := .int p2) (ty := .int) (C := RX5) (T := TX5) (N := 7) hx hb hts (fun _ h => (List.mem_cons_of_mem _ (List.mem_append_left _ (List.mem_append_left _ (List.mem_append_right _ h))))) tyX5 tyX5_ok nmX5 hown hK hP hD hS 2 rfl rfl 1 (by decide) (hts (.fieldLink RX0 36 "SelfishJunction$Resource" "b" "I") (List.mem_cons_of_mem _ (List.mem_append_left _ (List.mem_append_left _ (List.mem_append_left _ (List.mem_append_left _ (List.mem_of_getElem? (i := 4) rfl))))))) (fun _ h9 => h9) rfl (by decide +kernel) rfl rfl (Nat.le_of_ble_eq_true rfl) dX0_putResource_36 (fun H locs hP hD hS => ?_)
  have hP : va_P D vwCl [(h1, .inr (2, [.ref h2, x3, .int 0, x4])), (h2, .inl (cy 5, 8, .inr (.inr (.inr (.inr g5))))), (h6, .inr (7, [.int p1, .int p2, .int p0, x7, x8, x9, .ref h10])), (h10, .inl (cy 1, 19, .inl g11))] H := hP
  have hD : va_D A [(h1, .inr (2, [.ref h2, x3, .int 0, x4])), (h2, .inl (cy 5, 8, .inr (.inr (.inr (.inr g5))))), (h6, .inr (7, [.int p1, .int p2, .int p0, x7, x8, x9, .ref h10])), (h10, .inl (cy 1, 19, .inl g11))] := hD
  refine lv_aload_n hx hb dX0_putResource_39 rfl (lv_at hl 1 rfl) ?_
  refine va_get (D := D) (ci := 2) (v := .ref h2) (C := RX0) (T := TX0) (N := 4) hx hb hts (fun _ h => (List.mem_cons_of_mem _ (List.mem_append_left _ (List.mem_append_left _ (List.mem_append_left _ (List.mem_append_right _ h)))))) hown hK hP 0 rfl rfl 0 (by decide) (hts (.fieldLink RX0 11 "SelfishJunction$Board" "resources" "[LSelfishJunction$Resource;") (List.mem_cons_of_mem _ (List.mem_append_left _ (List.mem_append_left _ (List.mem_append_left _ (List.mem_append_left _ (List.mem_of_getElem? (i := 1) rfl))))))) (fun _ h9 => h9) rfl dX0_putResource_40 ?_
  refine lv_iload hx hb dX0_putResource_43 (lv_at hl 0 rfl) ?_
  refine va_aldq hx hb hK hP 1 5 rfl rfl (kx_in 0 8 rfl ⟨(Nat.le_of_ble_eq_true rfl), (Nat.le_of_ble_eq_true rfl)⟩ (Nat.le_of_ble_eq_true rfl)) dX0_putResource_45 ?_
  refine kx_rf (a := h6) (kg5_0) ?_
  have hPc := hP.sub (ws' := [(h6, .inr (7, [.int p1, .int p2, .int p0, x7, x8, x9, .ref h10])), (h10, .inl (cy 1, 19, .inl g11))]) [2, 3] rfl
  have hDc := hD.sub (ws' := [(h6, .inr (7, [.int p1, .int p2, .int p0, x7, x8, x9, .ref h10])), (h10, .inl (cy 1, 19, .inl g11))]) [2, 3] (by decide) rfl
  have hFc := va_free (wc := [(h6, .inr (7, [.int p1, .int p2, .int p0, x7, x8, x9, .ref h10])), (h10, .inl (cy 1, 19, .inl g11))]) hD hS hA [2, 3] rfl
  refine va_callv (va_runV (As := []) (rest := []) ⟨hx, hb, hml, hown, hts⟩ (k_X5_fillDelays l D cy h6 p1 p2 p0 (x7) (x8) (x9) h10 g11 H.size) (cwV 0 hts gX0_putResource_X5_fillDelays rfl rfl rfl (by decide +kernel) ⟨(Nat.le_of_ble_eq_true rfl), (Nat.le_of_ble_eq_true rfl)⟩) ⟨kW_fb, va_recv hK hP (ci := 7) (q0 := 2) rfl rfl, (kW_go hPc hK hDc)⟩ rfl rfl hl.1 rfl (lv_room (Nat.le_of_ble_eq_true rfl)) dX0_putResource_46 ⟨(Nat.le_of_ble_eq_true rfl), (Nat.le_of_ble_eq_true rfl)⟩) hS (fun q _ h => hFc q h) hFc (fun u t H locs ht hvm hw hB hz1 hk1 hS => ?_)
  obtain ⟨u_1, rfl⟩ : ∃ z, z = u := ⟨_, rfl⟩
  obtain ⟨hP1, hD1⟩ := hB
  rw [ht] at hP1
  try dsimp only at hw hP1 hD1
  obtain ⟨hP, hD⟩ := va_join (wr := [(h1, .inr (2, [.ref h2, x3, .int 0, x4])), (h2, .inl (cy 5, 8, .inr (.inr (.inr (.inr g5)))))]) (w1 := [(h6, .inr (7, [.int p1, .int p2, .int p0, x7, x8, x9, .ref h10])), (h10, .inl (cy 1, 19, .inl u_1))]) hP hD [2, 3] [0, 1] rfl rfl (by decide) (by decide) hk1 hFc hP1 hD1
  have hP : va_P D vwCl [(h1, .inr (2, [.ref h2, x3, .int 0, x4])), (h2, .inl (cy 5, 8, .inr (.inr (.inr (.inr g5))))), (h6, .inr (7, [.int p1, .int p2, .int p0, x7, x8, x9, .ref h10])), (h10, .inl (cy 1, 19, .inl u_1))] H := hP
  have hD : va_D A [(h1, .inr (2, [.ref h2, x3, .int 0, x4])), (h2, .inl (cy 5, 8, .inr (.inr (.inr (.inr g5))))), (h6, .inr (7, [.int p1, .int p2, .int p0, x7, x8, x9, .ref h10])), (h10, .inl (cy 1, 19, .inl u_1))] := hD
  refine lv_aload_n hx hb dX0_putResource_49 rfl (lv_at hl 1 rfl) ?_
  refine lv_dup hx hb dX0_putResource_50 rfl ?_
  refine va_get (D := D) (ci := 2) (v := .int 0) (C := RX0) (T := TX0) (N := 4) hx hb hts (fun _ h => (List.mem_cons_of_mem _ (List.mem_append_left _ (List.mem_append_left _ (List.mem_append_left _ (List.mem_append_right _ h)))))) hown hK hP 0 rfl rfl 2 (by decide) (hts (.fieldLink RX0 25 "SelfishJunction$Board" "resourceCount" "I") (List.mem_cons_of_mem _ (List.mem_append_left _ (List.mem_append_left _ (List.mem_append_left _ (List.mem_append_left _ (List.mem_of_getElem? (i := 0) rfl))))))) (fun _ h9 => h9) rfl dX0_putResource_51 ?_
  refine lv_iconst (v := 1) hx hb dX0_putResource_54 (by decide) ?_
  refine lv_iadd hx hb dX0_putResource_55 ?_
  refine lv_topi (fun v_3 ev_3 => ?_)
  obtain rfl : v_3 = 1 := ev_3.trans (by decide)
  refine va_put (D := D) (ci := 2) (v := .int 1) (ty := .int) (C := RX0) (T := TX0) (N := 4) hx hb hts (fun _ h => (List.mem_cons_of_mem _ (List.mem_append_left _ (List.mem_append_left _ (List.mem_append_left _ (List.mem_append_right _ h)))))) tyX0 tyX0_ok nmX0 hown hK hP hD hS 0 rfl rfl 2 (by decide) (hts (.fieldLink RX0 25 "SelfishJunction$Board" "resourceCount" "I") (List.mem_cons_of_mem _ (List.mem_append_left _ (List.mem_append_left _ (List.mem_append_left _ (List.mem_append_left _ (List.mem_of_getElem? (i := 0) rfl))))))) (fun _ h9 => h9) rfl (by decide +kernel) rfl rfl (Nat.le_of_ble_eq_true rfl) dX0_putResource_56 (fun H locs hP hD hS => ?_)
  have hP : va_P D vwCl [(h1, .inr (2, [.ref h2, x3, .int 1, x4])), (h2, .inl (cy 5, 8, .inr (.inr (.inr (.inr g5))))), (h6, .inr (7, [.int p1, .int p2, .int p0, x7, x8, x9, .ref h10])), (h10, .inl (cy 1, 19, .inl u_1))] H := hP
  have hD : va_D A [(h1, .inr (2, [.ref h2, x3, .int 1, x4])), (h2, .inl (cy 5, 8, .inr (.inr (.inr (.inr g5))))), (h6, .inr (7, [.int p1, .int p2, .int p0, x7, x8, x9, .ref h10])), (h10, .inl (cy 1, 19, .inl u_1))] := hD
  refine lv_iload hx hb dX0_putResource_59 (lv_at hl 0 rfl) ?_
  refine W.widen (k := 0) (n := 0) (Nat.le_of_ble_eq_true rfl) (Nat.le_of_ble_eq_true rfl) ?_
  have hP9 := hP.sub (ws' := [(h1, .inr (2, [.ref h2, x3, .int 1, x4])), (h2, .inl (cy 5, 8, .inr (.inr (.inr (.inr g5))))), (h6, .inr (7, [.int p1, .int p2, .int p0, x7, x8, x9, .ref h10])), (h10, .inl (cy 1, 19, .inl u_1))]) [0, 1, 2, 3] rfl
  have hD9 := hD.sub (ws' := [(h1, .inr (2, [.ref h2, x3, .int 1, x4])), (h2, .inl (cy 5, 8, .inr (.inr (.inr (.inr g5))))), (h6, .inr (7, [.int p1, .int p2, .int p0, x7, x8, x9, .ref h10])), (h10, .inl (cy 1, 19, .inl u_1))]) [0, 1, 2, 3] (by decide) rfl
  exact W.iret (v := 0) hx hb hr (fun t ht hW => ⟨⟨0, (u_1), rfl, ⟨rfl, trivial⟩, ⟨by rw [ht]; exact hP9, hD9⟩⟩, hS.F ht⟩) hS.2.2 dX0_putResource_61
theorem dX7_addResource_0 : decode cX7_addResource 0 = .ok (.aload_n 0, 1) := by decide +kernel
theorem dX7_addResource_1 : decode cX7_addResource 1 = .ok (.iload_n 1, 1) := by decide +kernel
theorem dX7_addResource_2 : decode cX7_addResource 2 = .ok (.iload_n 2, 1) := by decide +kernel
theorem dX7_addResource_3 : decode cX7_addResource 3 = .ok (.iload_n 3, 1) := by decide +kernel
theorem dX7_addResource_4 : decode cX7_addResource 4 = .ok (.invokevirtual 51, 3) := by decide +kernel
set_option maxRecDepth 20000 in
theorem ggX7_addResource_X7_checkNumbers : GoodIn wsX7_addResource wsX7_checkNumbers := goodIn_ca (goodIn_r _ [6, 7, 8, 9, 10, 11, 5, 12] (by decide +kernel) (by decide +kernel)) (goodIn_sub (fun _ h => List.mem_cons_of_mem _ (List.mem_append_left _ (List.mem_append_left _ (List.mem_append_left _ (List.mem_append_right _ h))))) (by decide +kernel))
set_option maxRecDepth 20000 in
theorem gX7_addResource_X7_checkNumbers : GoodIn wsX7_addResource (wsV RX7 51 RX7 yX7_checkNumbers wsX7_checkNumbers) := goodIn_app (goodIn_of _ (by decide +kernel)) ggX7_addResource_X7_checkNumbers
theorem dX7_addResource_7 : decode cX7_addResource 7 = .ok (.aload_n 0, 1) := by decide +kernel
theorem dX7_addResource_8 : decode cX7_addResource 8 = .ok (.invokevirtual 55, 3) := by decide +kernel
set_option maxRecDepth 20000 in
theorem ggX7_addResource_X7_checkRoomForResource : GoodIn wsX7_addResource wsX7_checkRoomForResource := goodIn_ca (goodIn_r _ [16, 17, 18, 1, 19, 43, 44, 45, 46, 47, 48, 49, 50, 51, 52, 53] (by decide +kernel) (by decide +kernel)) (goodIn_sub (fun _ h => List.mem_cons_of_mem _ (List.mem_append_left _ (List.mem_append_left _ (List.mem_append_right _ h)))) (by decide +kernel))
set_option maxRecDepth 20000 in
theorem gX7_addResource_X7_checkRoomForResource : GoodIn wsX7_addResource (wsV RX7 55 RX7 yX7_checkRoomForResource wsX7_checkRoomForResource) := goodIn_app (goodIn_of _ (by decide +kernel)) ggX7_addResource_X7_checkRoomForResource
theorem dX7_addResource_11 : decode cX7_addResource 11 = .ok (.aload_n 0, 1) := by decide +kernel
theorem dX7_addResource_12 : decode cX7_addResource 12 = .ok (.getfield 10, 3) := by decide +kernel
theorem dX7_addResource_15 : decode cX7_addResource 15 = .ok (.iload_n 1, 1) := by decide +kernel
theorem dX7_addResource_16 : decode cX7_addResource 16 = .ok (.iload_n 2, 1) := by decide +kernel
theorem dX7_addResource_17 : decode cX7_addResource 17 = .ok (.iload_n 3, 1) := by decide +kernel
theorem dX7_addResource_18 : decode cX7_addResource 18 = .ok (.invokevirtual 58, 3) := by decide +kernel
set_option maxRecDepth 20000 in
theorem ggX7_addResource_X0_putResource : GoodIn wsX7_addResource wsX0_putResource := goodIn_ca (goodIn_ca (goodIn_r _ [24, 25, 26, 27, 28, 29, 30, 31, 32, 33, 34, 35, 36, 37, 38, 39, 40, 41, 42, 50, 51, 52, 53, 54, 55, 56, 57, 58, 59, 60] (by decide +kernel) (by decide +kernel)) (goodIn_sub (fun _ h => List.mem_cons_of_mem _ (List.mem_append_left _ (List.mem_append_right _ h))) (by decide +kernel))) (goodIn_sub (fun _ h => List.mem_cons_of_mem _ (List.mem_append_right _ h)) (by decide +kernel))
set_option maxRecDepth 20000 in
theorem gX7_addResource_X0_putResource : GoodIn wsX7_addResource (wsV RX7 58 RX0 yX0_putResource wsX0_putResource) := goodIn_app (goodIn_of _ (by decide +kernel)) ggX7_addResource_X0_putResource
theorem dX7_addResource_21 : decode cX7_addResource 21 = .ok (.ireturn, 1) := by decide +kernel
set_option maxHeartbeats 4000000 in
set_option maxRecDepth 100000 in
theorem k_X7_addResource (l : Launch) (hl9 : l.stackTraces = false) (D : va_G) (cy : Nat → ClassId) (h1 : Nat) (p0 : Int32) (p1 : Int32) (p2 : Int32) (h2 : Nat) (x3 : Value) (x4 : Value) (x5 : Value) (x6 : Value) (x7 : Value) (x8 : Value) (h9 : Nat) (x10 : Value) (x11 : Value) (g12 : Nat → Option Nat) (h13 : Nat) (kg12_0 : g12 0 = some h13) (x14 : Value) (x15 : Value) (x16 : Value) (h17 : Nat) (g18 : Nat → Int32) (sz : Nat) : vx_Met l yX7_addResource wsX7_addResource ({ frames := 8, cells := 2, slots := 12, locals := 128 }) (kWX D cy [.ref h1, .int p0, .int p1, .int p2] [(h1, .inr (9, [.ref h2, x3, x4, x5, x6, x7, x8])), (h2, .inr (2, [.ref h9, x10, .int 0, x11])), (h9, .inl (cy 5, 8, .inr (.inr (.inr (.inr g12))))), (h13, .inr (7, [.int 0, .int 0, .int 99, x14, x15, x16, .ref h17])), (h17, .inl (cy 1, 19, .inl g18))] sz) (va_Qi (fun (r : Int32) (u : (Nat → Int32)) => match u with | u1 => r = 0 ∧ ((p0.toInt = (99 : Int) ∨ p0.toInt = (108 : Int) ∨ p0.toInt = (113 : Int) ∨ p0.toInt = (115 : Int)) ∧ ((0 : Int) ≤ p1.toInt ∧ p1.toInt ≤ (20 : Int)) ∧ ((0 : Int) ≤ p2.toInt ∧ p2.toInt ≤ (999 : Int)))) (fun (u : (Nat → Int32)) (t : State) => match u with | u1 => va_P D vwCl [(h1, .inr (9, [.ref h2, x3, x4, x5, x6, x7, x8])), (h2, .inr (2, [.ref h9, x10, .int 1, x11])), (h9, .inl (cy 5, 8, .inr (.inr (.inr (.inr g12))))), (h13, .inr (7, [.int p1, .int p2, .int p0, x14, x15, x16, .ref h17])), (h17, .inl (cy 1, 19, .inl u1))] t.heap ∧ va_D (va_A [(h1, .inr (9, [.ref h2, x3, x4, x5, x6, x7, x8])), (h2, .inr (2, [.ref h9, x10, .int 0, x11])), (h9, .inl (cy 5, 8, .inr (.inr (.inr (.inr g12))))), (h13, .inr (7, [.int 0, .int 0, .int 99, x14, x15, x16, .ref h17])), (h17, .inl (cy 1, 19, .inl g18))] sz) [(h1, .inr (9, [.ref h2, x3, x4, x5, x6, x7, x8])), (h2, .inr (2, [.ref h9, x10, .int 1, x11])), (h9, .inl (cy 5, 8, .inr (.inr (.inr (.inr g12))))), (h13, .inr (7, [.int p1, .int p2, .int p0, x14, x15, x16, .ref h17])), (h17, .inl (cy 1, 19, .inl u1))]) (va_A [(h1, .inr (9, [.ref h2, x3, x4, x5, x6, x7, x8])), (h2, .inr (2, [.ref h9, x10, .int 0, x11])), (h9, .inl (cy 5, 8, .inr (.inr (.inr (.inr g12))))), (h13, .inr (7, [.int 0, .int 0, .int 99, x14, x15, x16, .ref h17])), (h17, .inl (cy 1, 19, .inl g18))] sz)) (vx_X (fun _ : Unit => True) (fun (E : String) (_ : Unit) (_ : State) => (E = "java/lang/IllegalArgumentException" ∧ ¬ (((p0.toInt = (99 : Int) ∨ p0.toInt = (108 : Int) ∨ p0.toInt = (113 : Int) ∨ p0.toInt = (115 : Int)) ∧ ((0 : Int) ≤ p1.toInt ∧ p1.toInt ≤ (20 : Int)) ∧ ((0 : Int) ≤ p2.toInt ∧ p2.toInt ≤ (999 : Int)))))) (va_A [(h1, .inr (9, [.ref h2, x3, x4, x5, x6, x7, x8])), (h2, .inr (2, [.ref h9, x10, .int 0, x11])), (h9, .inl (cy 5, 8, .inr (.inr (.inr (.inr g12))))), (h13, .inr (7, [.int 0, .int 0, .int 99, x14, x15, x16, .ref h17])), (h17, .inl (cy 1, 19, .inl g18))] sz)) 2 12 (va_A [(h1, .inr (9, [.ref h2, x3, x4, x5, x6, x7, x8])), (h2, .inr (2, [.ref h9, x10, .int 0, x11])), (h9, .inl (cy 5, 8, .inr (.inr (.inr (.inr g12))))), (h13, .inr (7, [.int 0, .int 0, .int 99, x14, x15, x16, .ref h17])), (h17, .inl (cy 1, 19, .inl g18))] sz) := by
  refine vx_ofW (cc := cX7_addResource) (maxL := 4) (ret := (some .int)) (by decide) rfl ?_
  intro p e s m args below meth c s₁ B hml ht9 hv
  obtain ⟨rfl, hsz, hP, hK, hD0, hE⟩ := hv
  have hx := B.exec
  have hb := B.bytes
  have hr := B.returns
  have hts := atoms_spec (ws := wsX7_addResource) B.pre
  have hown : s.vm.findClass RX7 = some m.cls := findClass_of_methodNamed B.named
  have hlocks := B.notSynchronized
  subst hsz
  have hD := hD0.self (sz := s.heap.size)
  generalize hAe : va_A [(h1, .inr (9, [.ref h2, x3, x4, x5, x6, x7, x8])), (h2, .inr (2, [.ref h9, x10, .int 0, x11])), (h9, .inl (cy 5, 8, .inr (.inr (.inr (.inr g12))))), (h13, .inr (7, [.int 0, .int 0, .int 99, x14, x15, x16, .ref h17])), (h17, .inl (cy 1, 19, .inl g18))] s.heap.size = A at hD hE ⊢
  have hA : ∀ q : Nat, s.heap.size ≤ q → A q := fun q h => by rw [← hAe]; exact Or.inr h
  have hS : va_S A s.heap s.heap [] := va_S.rf
  have hP : va_P D vwCl [(h1, .inr (9, [.ref h2, x3, x4, x5, x6, x7, x8])), (h2, .inr (2, [.ref h9, x10, .int 0, x11])), (h9, .inl (cy 5, 8, .inr (.inr (.inr (.inr g12))))), (h13, .inr (7, [.int 0, .int 0, .int 99, x14, x15, x16, .ref h17])), (h17, .inl (cy 1, 19, .inl g18))] s.heap := hP
  have hl := lv_entry ([.ref h1, .int p0, .int p1, .int p2]) (n := 4) (Nat.le_of_ble_eq_true rfl)
  rw [lg_entry_eq]
  generalize (lg_sl ([.ref h1, .int p0, .int p1, .int p2]) ++ List.replicate (4 - (lg_sl ([.ref h1, .int p0, .int p1, .int p2])).length) Slot.unset).toArray = ls at hl ⊢
  have hl : lv_has ls 4 [(0, .ref h1), (1, .int p0), (2, .int p1), (3, .int p2)] := hl
  refine lv_aload_n hx hb dX7_addResource_0 rfl (lv_at hl 0 rfl) ?_
  refine lv_iload_n hx hb dX7_addResource_1 rfl (lv_at hl 1 rfl) ?_
  refine lv_iload_n hx hb dX7_addResource_2 rfl (lv_at hl 2 rfl) ?_
  refine lv_iload_n hx hb dX7_addResource_3 rfl (lv_at hl 3 rfl) ?_
  have hPc := hP.sub (ws' := [(h1, .inr (9, [.ref h2, x3, x4, x5, x6, x7, x8]))]) [0] rfl
  refine vx_callv (vx_runV (As := [.int p0, .int p1, .int p2]) (rest := []) ⟨hx, hb, hml, hown, hts⟩ (k_X7_checkNumbers l hl9 D cy h1 p0 p1 p2 (.ref h2) (x3) (x4) (x5) (x6) (x7) (x8)) (cwV 3 hts gX7_addResource_X7_checkNumbers rfl rfl rfl (by decide +kernel) ⟨(Nat.le_of_ble_eq_true rfl), (Nat.le_of_ble_eq_true rfl)⟩) ⟨kRX_fb, va_recv hK hP (ci := 9) (q0 := 0) rfl rfl, (kRX_go hPc hK hE hS)⟩ rfl rfl hl.1 rfl (lv_room (Nat.le_of_ble_eq_true rfl)) dX7_addResource_4 ⟨(Nat.le_of_ble_eq_true rfl), (Nat.le_of_ble_eq_true rfl)⟩) hS (fun _ _ h => h.elim) (fun _ h => h.elim) (fun _ _ h => h.elim) (fun E9 ce9 q9 u t H locs ht hvm hw hB hz1 hk1 hS hce hcv hcl => ?_) (fun u t H locs ht hvm hw hB hz1 hk1 hS => ?_)
  · obtain ⟨rfl, hB⟩ := hB
    have f_1 : ¬ (((p0.toInt = (99 : Int) ∨ p0.toInt = (108 : Int) ∨ p0.toInt = (113 : Int) ∨ p0.toInt = (115 : Int)) ∧ ((0 : Int) ≤ p1.toInt ∧ p1.toInt ≤ (20 : Int)) ∧ ((0 : Int) ≤ p2.toInt ∧ p2.toInt ≤ (999 : Int)))) := hB
    exact vx_out (fun x hx => (ht9 x hx).elim) hlocks hce hcv hcl (fun t ht _ => ⟨(), trivial, (⟨rfl, (by omega)⟩), hS.F ht⟩) hS.2.2 (Nat.le_of_ble_eq_true rfl) (Nat.le_of_ble_eq_true rfl)
  · have hP := kx_kept hP hk1
    have f_2 : ((p0.toInt = (99 : Int) ∨ p0.toInt = (108 : Int) ∨ p0.toInt = (113 : Int) ∨ p0.toInt = (115 : Int)) ∧ ((0 : Int) ≤ p1.toInt ∧ p1.toInt ≤ (20 : Int)) ∧ ((0 : Int) ≤ p2.toInt ∧ p2.toInt ≤ (999 : Int))) := hw
    refine lv_aload_n hx hb dX7_addResource_7 rfl (lv_at hl 0 rfl) ?_
    have hPc := hP.sub (ws' := [(h1, .inr (9, [.ref h2, x3, x4, x5, x6, x7, x8])), (h2, .inr (2, [.ref h9, x10, .int 0, x11]))]) [0, 1] rfl
    refine va_callv (va_runV (As := []) (rest := []) ⟨hx, hb, hml, hown, hts⟩ (k_X7_checkRoomForResource l D cy h1 h2 (x3) (x4) (x5) (x6) (x7) (x8) (.ref h9) (x10) (x11)) (cwV 0 hts gX7_addResource_X7_checkRoomForResource rfl rfl rfl (by decide +kernel) ⟨(Nat.le_of_ble_eq_true rfl), (Nat.le_of_ble_eq_true rfl)⟩) ⟨kR_fb, va_recv hK hP (ci := 9) (q0 := 0) rfl rfl, (kR_go hPc hK)⟩ rfl rfl hl.1 rfl (lv_room (Nat.le_of_ble_eq_true rfl)) dX7_addResource_8 ⟨(Nat.le_of_ble_eq_true rfl), (Nat.le_of_ble_eq_true rfl)⟩) hS (fun _ _ h => h.elim) (fun _ h => h.elim) (fun u t H locs ht hvm hw hB hz1 hk1 hS => ?_)
    have hP := kx_kept hP hk1
    refine lv_aload_n hx hb dX7_addResource_11 rfl (lv_at hl 0 rfl) ?_
    refine va_get (D := D) (ci := 9) (v := .ref h2) (C := RX7) (T := TX7) (N := 7) hx hb hts (fun _ h => (List.mem_cons_of_mem _ (List.mem_append_left _ (List.mem_append_left _ (List.mem_append_left _ (List.mem_append_left _ (List.mem_append_left _ (List.mem_append_left _ (List.mem_append_right _ h))))))))) hown hK hP 0 rfl rfl 0 (by decide) (hts (.fieldLink RX7 10 "SelfishJunction" "board" "LSelfishJunction$Board;") (List.mem_cons_of_mem _ (List.mem_append_left _ (List.mem_append_left _ (List.mem_append_left _ (List.mem_append_left _ (List.mem_append_left _ (List.mem_append_left _ (List.mem_append_left _ (List.mem_append_left _ (List.mem_of_getElem? (i := 0) rfl))))))))))) (fun _ h9 => h9) rfl dX7_addResource_12 ?_
    refine lv_iload_n hx hb dX7_addResource_15 rfl (lv_at hl 1 rfl) ?_
    refine lv_iload_n hx hb dX7_addResource_16 rfl (lv_at hl 2 rfl) ?_
    refine lv_iload_n hx hb dX7_addResource_17 rfl (lv_at hl 3 rfl) ?_
    have hPc := hP.sub (ws' := [(h2, .inr (2, [.ref h9, x10, .int 0, x11])), (h9, .inl (cy 5, 8, .inr (.inr (.inr (.inr g12))))), (h13, .inr (7, [.int 0, .int 0, .int 99, x14, x15, x16, .ref h17])), (h17, .inl (cy 1, 19, .inl g18))]) [1, 2, 3, 4] rfl
    have hDc := hD.sub (ws' := [(h2, .inr (2, [.ref h9, x10, .int 0, x11])), (h9, .inl (cy 5, 8, .inr (.inr (.inr (.inr g12))))), (h13, .inr (7, [.int 0, .int 0, .int 99, x14, x15, x16, .ref h17])), (h17, .inl (cy 1, 19, .inl g18))]) [1, 2, 3, 4] (by decide) rfl
    have hFc := va_free (wc := [(h2, .inr (2, [.ref h9, x10, .int 0, x11])), (h9, .inl (cy 5, 8, .inr (.inr (.inr (.inr g12))))), (h13, .inr (7, [.int 0, .int 0, .int 99, x14, x15, x16, .ref h17])), (h17, .inl (cy 1, 19, .inl g18))]) hD hS hA [1, 2, 3, 4] rfl
    refine va_calli (va_runV (As := [.int p0, .int p1, .int p2]) (rest := []) ⟨hx, hb, hml, hown, hts⟩ (k_X0_putResource l D cy h2 p0 p1 p2 h9 (x10) (x11) g12 h13 (kg12_0) (x14) (x15) (x16) h17 g18 (by omega) H.size) (cwV 3 hts gX7_addResource_X0_putResource rfl rfl rfl (by decide +kernel) ⟨(Nat.le_of_ble_eq_true rfl), (Nat.le_of_ble_eq_true rfl)⟩) ⟨kW_fb, va_recv hK hP (ci := 2) (q0 := 1) rfl rfl, (kW_go hPc hK hDc)⟩ rfl rfl hl.1 rfl (lv_room (Nat.le_of_ble_eq_true rfl)) dX7_addResource_18 ⟨(Nat.le_of_ble_eq_true rfl), (Nat.le_of_ble_eq_true rfl)⟩) hS (fun q _ h => hFc q h) hFc (fun r9 u t H locs ht hvm hw hB hz1 hk1 hS => ?_)
    obtain ⟨u_4, rfl⟩ : ∃ z, z = u := ⟨_, rfl⟩
    obtain ⟨hP1, hD1⟩ := hB
    rw [ht] at hP1
    try dsimp only at hw hP1 hD1
    obtain ⟨hP, hD⟩ := va_join (wr := [(h1, .inr (9, [.ref h2, x3, x4, x5, x6, x7, x8]))]) (w1 := [(h2, .inr (2, [.ref h9, x10, .int 1, x11])), (h9, .inl (cy 5, 8, .inr (.inr (.inr (.inr g12))))), (h13, .inr (7, [.int p1, .int p2, .int p0, x14, x15, x16, .ref h17])), (h17, .inl (cy 1, 19, .inl u_4))]) hP hD [1, 2, 3, 4] [0] rfl rfl (by decide) (by decide) hk1 hFc hP1 hD1
    have hP : va_P D vwCl [(h1, .inr (9, [.ref h2, x3, x4, x5, x6, x7, x8])), (h2, .inr (2, [.ref h9, x10, .int 1, x11])), (h9, .inl (cy 5, 8, .inr (.inr (.inr (.inr g12))))), (h13, .inr (7, [.int p1, .int p2, .int p0, x14, x15, x16, .ref h17])), (h17, .inl (cy 1, 19, .inl u_4))] H := hP
    have hD : va_D A [(h1, .inr (9, [.ref h2, x3, x4, x5, x6, x7, x8])), (h2, .inr (2, [.ref h9, x10, .int 1, x11])), (h9, .inl (cy 5, 8, .inr (.inr (.inr (.inr g12))))), (h13, .inr (7, [.int p1, .int p2, .int p0, x14, x15, x16, .ref h17])), (h17, .inl (cy 1, 19, .inl u_4))] := hD
    obtain ⟨rfl, hw⟩ := hw
    refine vx_ret ?_
    refine W.widen (k := 2) (n := 12) (Nat.le_of_ble_eq_true rfl) (Nat.le_of_ble_eq_true rfl) ?_
    have hP9 := hP.sub (ws' := [(h1, .inr (9, [.ref h2, x3, x4, x5, x6, x7, x8])), (h2, .inr (2, [.ref h9, x10, .int 1, x11])), (h9, .inl (cy 5, 8, .inr (.inr (.inr (.inr g12))))), (h13, .inr (7, [.int p1, .int p2, .int p0, x14, x15, x16, .ref h17])), (h17, .inl (cy 1, 19, .inl u_4))]) [0, 1, 2, 3, 4] rfl
    have hD9 := hD.sub (ws' := [(h1, .inr (9, [.ref h2, x3, x4, x5, x6, x7, x8])), (h2, .inr (2, [.ref h9, x10, .int 1, x11])), (h9, .inl (cy 5, 8, .inr (.inr (.inr (.inr g12))))), (h13, .inr (7, [.int p1, .int p2, .int p0, x14, x15, x16, .ref h17])), (h17, .inl (cy 1, 19, .inl u_4))]) [0, 1, 2, 3, 4] (by decide) rfl
    exact W.iret (v := 0) hx hb hr (fun t ht hW => ⟨⟨0, (u_4), rfl, ⟨rfl, (by omega)⟩, ⟨by rw [ht]; exact hP9, hD9⟩⟩, hS.F ht⟩) hS.2.2 dX7_addResource_21
theorem dL_addResource_0 : decode cL_addResource 0 = .ok (.aload 4, 2) := by decide +kernel
theorem dL_addResource_2 : decode cL_addResource 2 = .ok (.iconst 0, 1) := by decide +kernel
theorem dL_addResource_3 : decode cL_addResource 3 = .ok (.aload_n 0, 1) := by decide +kernel
theorem dL_addResource_4 : decode cL_addResource 4 = .ok (.iload_n 1, 1) := by decide +kernel
theorem dL_addResource_5 : decode cL_addResource 5 = .ok (.iload_n 2, 1) := by decide +kernel
theorem dL_addResource_6 : decode cL_addResource 6 = .ok (.iload_n 3, 1) := by decide +kernel
theorem dL_addResource_7 : decode cL_addResource 7 = .ok (.invokevirtual 7, 3) := by decide +kernel
set_option maxRecDepth 20000 in
theorem ggL_addResource_X7_addResource : GoodIn wsL_addResource wsX7_addResource := goodIn_ca (goodIn_ca (goodIn_ca (goodIn_ca (goodIn_r _ [7, 8, 9, 10, 11, 6, 12, 13, 14, 15, 16, 17, 18, 19, 20, 21, 22, 23, 24, 25, 26, 27, 28, 29, 30, 31, 32, 33, 34, 35, 36, 37, 38, 39, 40, 41, 42, 43, 44, 45, 46, 47, 48, 49, 50, 51, 52, 53, 54, 55, 56, 57, 58, 59, 60, 61, 62, 63, 64, 65, 66] (by decide +kernel) (by decide +kernel)) (goodIn_sub (fun _ h => List.mem_cons_of_mem _ (List.mem_append_left _ (List.mem_append_left _ (List.mem_append_right _ h)))) (by decide +kernel))) (goodIn_sub (fun _ h => List.mem_cons_of_mem _ (List.mem_append_left _ (List.mem_append_right _ h))) (by decide +kernel))) (goodIn_sub (fun _ h => List.mem_cons_of_mem _ (List.mem_append_left _ (List.mem_append_left _ (List.mem_append_left _ (List.mem_append_right _ h))))) (by decide +kernel))) (goodIn_sub (fun _ h => List.mem_cons_of_mem _ (List.mem_append_right _ h)) (by decide +kernel))
set_option maxRecDepth 20000 in
theorem gL_addResource_X7_addResource : GoodIn wsL_addResource (wsV RL 7 RX7 yX7_addResource wsX7_addResource) := goodIn_app (goodIn_of _ (by decide +kernel)) ggL_addResource_X7_addResource
theorem dL_addResource_15 : decode cL_addResource 15 = .ok (.astore 5, 2) := by decide +kernel
theorem dL_addResource_17 : decode cL_addResource 17 = .ok (.iconst 1, 1) := by decide +kernel
theorem dL_addResource_18 : decode cL_addResource 18 = .ok (.ireturn, 1) := by decide +kernel
theorem dL_addResource_10 : decode cL_addResource 10 = .ok (.i2l, 1) := by decide +kernel
theorem dL_addResource_11 : decode cL_addResource 11 = .ok (.lastore, 1) := by decide +kernel
theorem dL_addResource_12 : decode cL_addResource 12 = .ok (.goto 11, 3) := by decide +kernel
theorem dL_addResource_23 : decode cL_addResource 23 = .ok (.iconst 0, 1) := by decide +kernel
theorem dL_addResource_24 : decode cL_addResource 24 = .ok (.ireturn, 1) := by decide +kernel
set_option maxHeartbeats 4000000 in
set_option maxRecDepth 100000 in
theorem k_L_addResource (l : Launch) (hl9 : l.stackTraces = false) (D : va_G) (cy : Nat → ClassId) (h1 : Nat) (p1 : Int32) (p2 : Int32) (p3 : Int32) (h2 : Nat) (h3 : Nat) (x4 : Value) (x5 : Value) (x6 : Value) (x7 : Value) (x8 : Value) (x9 : Value) (g10 : Nat → Int64) (h11 : Nat) (x12 : Value) (x13 : Value) (g14 : Nat → Option Nat) (h15 : Nat) (kg14_0 : g14 0 = some h15) (x16 : Value) (x17 : Value) (x18 : Value) (h19 : Nat) (g20 : Nat → Int32) (sz : Nat) : Met l yL_addResource wsL_addResource ({ frames := 9, cells := 2, slots := 12, locals := 151 }) (kWX D cy [.ref h1, .int p1, .int p2, .int p3, .ref h2] [(h1, .inr (9, [.ref h3, x4, x5, x6, x7, x8, x9])), (h2, .inl (cy 2, 1, .inr (.inl g10))), (h3, .inr (2, [.ref h11, x12, .int 0, x13])), (h11, .inl (cy 5, 8, .inr (.inr (.inr (.inr g14))))), (h15, .inr (7, [.int 0, .int 0, .int 99, x16, x17, x18, .ref h19])), (h19, .inl (cy 1, 19, .inl g20))] sz) (va_Qi (fun (r : Int32) (u : (Nat → Int64)) => match u with | u1 => ((r = 1 ∧ ¬ (((p1.toInt = (99 : Int) ∨ p1.toInt = (108 : Int) ∨ p1.toInt = (113 : Int) ∨ p1.toInt = (115 : Int)) ∧ ((0 : Int) ≤ p2.toInt ∧ p2.toInt ≤ (20 : Int)) ∧ ((0 : Int) ≤ p3.toInt ∧ p3.toInt ≤ (999 : Int))))) ∨ (r = 0 ∧ (u1 0 = 0) ∧ ((p1.toInt = (99 : Int) ∨ p1.toInt = (108 : Int) ∨ p1.toInt = (113 : Int) ∨ p1.toInt = (115 : Int)) ∧ ((0 : Int) ≤ p2.toInt ∧ p2.toInt ≤ (20 : Int)) ∧ ((0 : Int) ≤ p3.toInt ∧ p3.toInt ≤ (999 : Int)))))) (fun (u : (Nat → Int64)) (t : State) => match u with | u1 => va_P D vwCl [(h2, .inl (cy 2, 1, .inr (.inl u1)))] t.heap ∧ va_D (va_A [(h1, .inr (9, [.ref h3, x4, x5, x6, x7, x8, x9])), (h2, .inl (cy 2, 1, .inr (.inl g10))), (h3, .inr (2, [.ref h11, x12, .int 0, x13])), (h11, .inl (cy 5, 8, .inr (.inr (.inr (.inr g14))))), (h15, .inr (7, [.int 0, .int 0, .int 99, x16, x17, x18, .ref h19])), (h19, .inl (cy 1, 19, .inl g20))] sz) [(h2, .inl (cy 2, 1, .inr (.inl u1)))]) (va_A [(h1, .inr (9, [.ref h3, x4, x5, x6, x7, x8, x9])), (h2, .inl (cy 2, 1, .inr (.inl g10))), (h3, .inr (2, [.ref h11, x12, .int 0, x13])), (h11, .inl (cy 5, 8, .inr (.inr (.inr (.inr g14))))), (h15, .inr (7, [.int 0, .int 0, .int 99, x16, x17, x18, .ref h19])), (h19, .inl (cy 1, 19, .inl g20))] sz)) 2 12 (va_A [(h1, .inr (9, [.ref h3, x4, x5, x6, x7, x8, x9])), (h2, .inl (cy 2, 1, .inr (.inl g10))), (h3, .inr (2, [.ref h11, x12, .int 0, x13])), (h11, .inl (cy 5, 8, .inr (.inr (.inr (.inr g14))))), (h15, .inr (7, [.int 0, .int 0, .int 99, x16, x17, x18, .ref h19])), (h19, .inl (cy 1, 19, .inl g20))] sz) := by
  refine va_MetW (cc := cL_addResource) (maxL := 6) (ret := (some .int)) (by decide) rfl ?_
  intro p e s m args below meth c s₁ B hml hv
  obtain ⟨rfl, hsz, hP, hK, hD0, hE⟩ := hv
  have hx := B.exec
  have hb := B.bytes
  have hr := B.returns
  have hts := atoms_spec (ws := wsL_addResource) B.pre
  have hown : s.vm.findClass RL = some m.cls := findClass_of_methodNamed B.named
  have hlocks := B.notSynchronized
  have htb := vx_table (x := yL_addResource) B (hts _ (List.mem_cons_self))
  subst hsz
  have hD := hD0.self (sz := s.heap.size)
  generalize hAe : va_A [(h1, .inr (9, [.ref h3, x4, x5, x6, x7, x8, x9])), (h2, .inl (cy 2, 1, .inr (.inl g10))), (h3, .inr (2, [.ref h11, x12, .int 0, x13])), (h11, .inl (cy 5, 8, .inr (.inr (.inr (.inr g14))))), (h15, .inr (7, [.int 0, .int 0, .int 99, x16, x17, x18, .ref h19])), (h19, .inl (cy 1, 19, .inl g20))] s.heap.size = A at hD hE ⊢
  have hA : ∀ q : Nat, s.heap.size ≤ q → A q := fun q h => by rw [← hAe]; exact Or.inr h
  have hS : va_S A s.heap s.heap [] := va_S.rf
  have hP : va_P D vwCl [(h1, .inr (9, [.ref h3, x4, x5, x6, x7, x8, x9])), (h2, .inl (cy 2, 1, .inr (.inl g10))), (h3, .inr (2, [.ref h11, x12, .int 0, x13])), (h11, .inl (cy 5, 8, .inr (.inr (.inr (.inr g14))))), (h15, .inr (7, [.int 0, .int 0, .int 99, x16, x17, x18, .ref h19])), (h19, .inl (cy 1, 19, .inl g20))] s.heap := hP
  have hl := lv_entry ([.ref h1, .int p1, .int p2, .int p3, .ref h2]) (n := 6) (Nat.le_of_ble_eq_true rfl)
  rw [lg_entry_eq]
  generalize (lg_sl ([.ref h1, .int p1, .int p2, .int p3, .ref h2]) ++ List.replicate (6 - (lg_sl ([.ref h1, .int p1, .int p2, .int p3, .ref h2])).length) Slot.unset).toArray = ls at hl ⊢
  have hl : lv_has ls 6 [(0, .ref h1), (1, .int p1), (2, .int p2), (3, .int p3), (4, .ref h2)] := hl
  refine lv_aload hx hb dL_addResource_0 (lv_at hl 4 rfl) ?_
  refine lv_iconst (v := 0) hx hb dL_addResource_2 (by decide) ?_
  refine lv_aload_n hx hb dL_addResource_3 rfl (lv_at hl 0 rfl) ?_
  refine lv_iload_n hx hb dL_addResource_4 rfl (lv_at hl 1 rfl) ?_
  refine lv_iload_n hx hb dL_addResource_5 rfl (lv_at hl 2 rfl) ?_
  refine lv_iload_n hx hb dL_addResource_6 rfl (lv_at hl 3 rfl) ?_
  have hPc := hP.sub (ws' := [(h1, .inr (9, [.ref h3, x4, x5, x6, x7, x8, x9])), (h3, .inr (2, [.ref h11, x12, .int 0, x13])), (h11, .inl (cy 5, 8, .inr (.inr (.inr (.inr g14))))), (h15, .inr (7, [.int 0, .int 0, .int 99, x16, x17, x18, .ref h19])), (h19, .inl (cy 1, 19, .inl g20))]) [0, 2, 3, 4, 5] rfl
  have hDc := hD.sub (ws' := [(h1, .inr (9, [.ref h3, x4, x5, x6, x7, x8, x9])), (h3, .inr (2, [.ref h11, x12, .int 0, x13])), (h11, .inl (cy 5, 8, .inr (.inr (.inr (.inr g14))))), (h15, .inr (7, [.int 0, .int 0, .int 99, x16, x17, x18, .ref h19])), (h19, .inl (cy 1, 19, .inl g20))]) [0, 2, 3, 4, 5] (by decide) rfl
  have hFc := va_free (wc := [(h1, .inr (9, [.ref h3, x4, x5, x6, x7, x8, x9])), (h3, .inr (2, [.ref h11, x12, .int 0, x13])), (h11, .inl (cy 5, 8, .inr (.inr (.inr (.inr g14))))), (h15, .inr (7, [.int 0, .int 0, .int 99, x16, x17, x18, .ref h19])), (h19, .inl (cy 1, 19, .inl g20))]) hD hS hA [0, 2, 3, 4, 5] rfl
  refine vx_calli (vx_runV (As := [.int p1, .int p2, .int p3]) (rest := [.int 0, .ref h2]) ⟨hx, hb, hml, hown, hts⟩ (k_X7_addResource l hl9 D cy h1 p1 p2 p3 h3 (x4) (x5) (x6) (x7) (x8) (x9) h11 (x12) (x13) g14 h15 (kg14_0) (x16) (x17) (x18) h19 g20 s.heap.size) (cwV 3 hts gL_addResource_X7_addResource rfl rfl rfl (by decide +kernel) ⟨(Nat.le_of_ble_eq_true rfl), (Nat.le_of_ble_eq_true rfl)⟩) ⟨kWX_fb, va_recv hK hP (ci := 9) (q0 := 0) rfl rfl, (kWX_go hPc hK hDc hFc hE hS)⟩ rfl rfl hl.1 rfl (lv_room (Nat.le_of_ble_eq_true rfl)) dL_addResource_7 ⟨(Nat.le_of_ble_eq_true rfl), (Nat.le_of_ble_eq_true rfl)⟩) hS (fun q _ h => hFc q h) hFc (fun q _ h => hFc q h) (fun E9 ce9 q9 u t H locs ht hvm hw hB hz1 hk1 hS hce hcv hcl => ?_) (fun r9 u t H locs ht hvm hw hB hz1 hk1 hS => ?_)
  · obtain ⟨rfl, hB⟩ := hB
    have f_1 : ¬ (((p1.toInt = (99 : Int) ∨ p1.toInt = (108 : Int) ∨ p1.toInt = (113 : Int) ∨ p1.toInt = (115 : Int)) ∧ ((0 : Int) ≤ p2.toInt ∧ p2.toInt ≤ (20 : Int)) ∧ ((0 : Int) ≤ p3.toInt ∧ p3.toInt ≤ (999 : Int)))) := hB
    obtain ⟨hP, hD⟩ := va_join (wr := [(h2, .inl (cy 2, 1, .inr (.inl g10)))]) (w1 := []) hP hD [0, 2, 3, 4, 5] [1] rfl rfl (by decide) (by decide) hk1 hFc (fun k q h => by simp at h) ⟨fun i j p q h => by simp at h, fun k q h => by simp at h⟩
    have hP : va_P D vwCl [(h2, .inl (cy 2, 1, .inr (.inl g10)))] H := hP
    have hD : va_D A [(h2, .inl (cy 2, 1, .inr (.inl g10)))] := hD
    refine vx_catch (E := "java/lang/IllegalArgumentException") (name := "java/lang/IllegalArgumentException") hown [] (⟨0, 12, 15, 13⟩ : ExceptionTableEntry) [(⟨0, 12, 19, 15⟩ : ExceptionTableEntry)] htb (fun _ h => absurd h List.not_mem_nil) rfl (by decide) (hts (.classLink RL 13 "java/lang/IllegalArgumentException") (List.mem_cons_of_mem _ (List.mem_append_left _ (List.mem_append_left _ (List.mem_append_left _ (List.mem_append_left _ (List.mem_append_left _ (List.mem_append_left _ (List.mem_append_left _ (List.mem_append_left _ (List.mem_of_getElem? (i := 0) rfl))))))))))) (exP.cast hE "java/lang/IllegalArgumentException" (by decide +kernel)) hce hcv hcl ?_
    refine lv_astore (lv' := [(5, .ref q9), (0, .ref h1), (1, .int p1), (2, .int p2), (3, .int p3), (4, .ref h2)]) hx hb dL_addResource_15 hl (by decide) rfl (fun ls hl => ?_)
    refine lv_iconst (v := 1) hx hb dL_addResource_17 (by decide) ?_
    refine W.widen (k := 2) (n := 12) (Nat.le_of_ble_eq_true rfl) (Nat.le_of_ble_eq_true rfl) ?_
    have hP9 := hP.sub (ws' := [(h2, .inl (cy 2, 1, .inr (.inl g10)))]) [0] rfl
    have hD9 := hD.sub (ws' := [(h2, .inl (cy 2, 1, .inr (.inl g10)))]) [0] (by decide) rfl
    exact W.iret (v := 1) hx hb hr (fun t ht hW => ⟨⟨1, (g10), rfl, Or.inl (⟨rfl, (by omega)⟩), ⟨by rw [ht]; exact hP9, hD9⟩⟩, hS.F ht⟩) hS.2.2 dL_addResource_18
  · obtain ⟨u_2, rfl⟩ : ∃ z, z = u := ⟨_, rfl⟩
    obtain ⟨hP1, hD1⟩ := hB
    rw [ht] at hP1
    try dsimp only at hw hP1 hD1
    obtain ⟨hP, hD⟩ := va_join (wr := [(h2, .inl (cy 2, 1, .inr (.inl g10)))]) (w1 := [(h1, .inr (9, [.ref h3, x4, x5, x6, x7, x8, x9])), (h3, .inr (2, [.ref h11, x12, .int 1, x13])), (h11, .inl (cy 5, 8, .inr (.inr (.inr (.inr g14))))), (h15, .inr (7, [.int p2, .int p3, .int p1, x16, x17, x18, .ref h19])), (h19, .inl (cy 1, 19, .inl u_2))]) hP hD [0, 2, 3, 4, 5] [1] rfl rfl (by decide) (by decide) hk1 hFc hP1 hD1
    have hP : va_P D vwCl [(h2, .inl (cy 2, 1, .inr (.inl g10))), (h1, .inr (9, [.ref h3, x4, x5, x6, x7, x8, x9])), (h3, .inr (2, [.ref h11, x12, .int 1, x13])), (h11, .inl (cy 5, 8, .inr (.inr (.inr (.inr g14))))), (h15, .inr (7, [.int p2, .int p3, .int p1, x16, x17, x18, .ref h19])), (h19, .inl (cy 1, 19, .inl u_2))] H := hP
    have hD : va_D A [(h2, .inl (cy 2, 1, .inr (.inl g10))), (h1, .inr (9, [.ref h3, x4, x5, x6, x7, x8, x9])), (h3, .inr (2, [.ref h11, x12, .int 1, x13])), (h11, .inl (cy 5, 8, .inr (.inr (.inr (.inr g14))))), (h15, .inr (7, [.int p2, .int p3, .int p1, x16, x17, x18, .ref h19])), (h19, .inl (cy 1, 19, .inl u_2))] := hD
    refine W.widen (k := 2) (n := 12) (Nat.le_of_ble_eq_true rfl) (Nat.le_of_ble_eq_true rfl) ?_
    obtain ⟨rfl, hw⟩ := hw
    have f_3 : ((p1.toInt = (99 : Int) ∨ p1.toInt = (108 : Int) ∨ p1.toInt = (113 : Int) ∨ p1.toInt = (115 : Int)) ∧ ((0 : Int) ≤ p2.toInt ∧ p2.toInt ≤ (20 : Int)) ∧ ((0 : Int) ≤ p3.toInt ∧ p3.toInt ≤ (999 : Int))) := hw
    refine lv_i2l (v := 0) hx hb dL_addResource_10 (by decide) ?_
    refine va_last hx hb hK hP hD hS 0 2 rfl rfl (kx_in 0 1 rfl ⟨(Nat.le_of_ble_eq_true rfl), (Nat.le_of_ble_eq_true rfl)⟩ (Nat.le_of_ble_eq_true rfl)) dL_addResource_11 (fun H locs hP hD hS => ?_)
    have hP : va_P D vwCl [(h2, .inl (cy 2, 1, .inr (.inl (vp_updL g10 0 0)))), (h1, .inr (9, [.ref h3, x4, x5, x6, x7, x8, x9])), (h3, .inr (2, [.ref h11, x12, .int 1, x13])), (h11, .inl (cy 5, 8, .inr (.inr (.inr (.inr g14))))), (h15, .inr (7, [.int p2, .int p3, .int p1, x16, x17, x18, .ref h19])), (h19, .inl (cy 1, 19, .inl u_2))] H := hP
    have hD : va_D A [(h2, .inl (cy 2, 1, .inr (.inl (vp_updL g10 0 0)))), (h1, .inr (9, [.ref h3, x4, x5, x6, x7, x8, x9])), (h3, .inr (2, [.ref h11, x12, .int 1, x13])), (h11, .inl (cy 5, 8, .inr (.inr (.inr (.inr g14))))), (h15, .inr (7, [.int p2, .int p3, .int p1, x16, x17, x18, .ref h19])), (h19, .inl (cy 1, 19, .inl u_2))] := hD
    refine lv_goto (tgt := 23) hx hb dL_addResource_12 (by decide) ?_
    refine lv_iconst (v := 0) hx hb dL_addResource_23 (by decide) ?_
    refine W.widen (k := 2) (n := 12) (Nat.le_of_ble_eq_true rfl) (Nat.le_of_ble_eq_true rfl) ?_
    have hP9 := hP.sub (ws' := [(h2, .inl (cy 2, 1, .inr (.inl (vp_updL g10 0 0))))]) [0] rfl
    have hD9 := hD.sub (ws' := [(h2, .inl (cy 2, 1, .inr (.inl (vp_updL g10 0 0))))]) [0] (by decide) rfl
    exact W.iret (v := 0) hx hb hr (fun t ht hW => ⟨⟨0, ((vp_updL g10 0 0)), rfl, Or.inr (⟨rfl, (rfl), (by omega)⟩), ⟨by rw [ht]; exact hP9, hD9⟩⟩, hS.F ht⟩) hS.2.2 dL_addResource_24
theorem dX8_isIn_0 : decode cX8_isIn 0 = .ok (.iload_n 0, 1) := by decide +kernel
theorem dX8_isIn_1 : decode cX8_isIn 1 = .ok (.iload_n 1, 1) := by decide +kernel
theorem dX8_isIn_2 : decode cX8_isIn 2 = .ok (.if_icmp .lt 12, 3) := by decide +kernel
theorem dX8_isIn_14 : decode cX8_isIn 14 = .ok (.iconst 0, 1) := by decide +kernel
theorem dX8_isIn_15 : decode cX8_isIn 15 = .ok (.ireturn, 1) := by decide +kernel
theorem dX8_isIn_5 : decode cX8_isIn 5 = .ok (.iload_n 0, 1) := by decide +kernel
theorem dX8_isIn_6 : decode cX8_isIn 6 = .ok (.iload_n 2, 1) := by decide +kernel
theorem dX8_isIn_7 : decode cX8_isIn 7 = .ok (.if_icmp .gt 7, 3) := by decide +kernel
theorem dX8_isIn_10 : decode cX8_isIn 10 = .ok (.iconst 1, 1) := by decide +kernel
theorem dX8_isIn_11 : decode cX8_isIn 11 = .ok (.goto 4, 3) := by decide +kernel
set_option maxHeartbeats 4000000 in
set_option maxRecDepth 100000 in
theorem k_X8_isIn (l : Launch) (D : va_G) (cy : Nat → ClassId) (p0 : Int32) (p1 : Int32) (p2 : Int32) : Met l yX8_isIn wsX8_isIn ({ frames := 0, cells := 0, slots := 0, locals := 0 }) (kR D cy [.int p0, .int p1, .int p2] []) (va_Qi (fun (r : Int32) (_ : Unit) => ((r = 1 ∧ (p1.toInt ≤ p0.toInt ∧ p0.toInt ≤ p2.toInt)) ∨ (r = 0 ∧ ¬ ((p1.toInt ≤ p0.toInt ∧ p0.toInt ≤ p2.toInt))))) (fun (_ : Unit) (_ : State) => True) (fun _ : Nat => False)) 0 0 (fun _ : Nat => False) := by
  refine Met.ofW (cc := cX8_isIn) (maxL := 3) (ret := (some .boolean)) (by decide) rfl ?_
  intro p e s m args below meth c s₁ B hml hv
  obtain ⟨rfl, hP, hK⟩ := hv
  have hx := B.exec
  have hb := B.bytes
  have hr := B.returns
  have hts := atoms_spec (ws := wsX8_isIn) B.pre
  have hown : s.vm.findClass RX8 = some m.cls := findClass_of_methodNamed B.named
  have hlocks := B.notSynchronized
  have hS : va_S (fun _ : Nat => False) s.heap s.heap [] := va_S.rf
  have hP : va_P D vwCl [] s.heap := hP
  have hl := lv_entry ([.int p0, .int p1, .int p2]) (n := 3) (Nat.le_of_ble_eq_true rfl)
  rw [lg_entry_eq]
  generalize (lg_sl ([.int p0, .int p1, .int p2]) ++ List.replicate (3 - (lg_sl ([.int p0, .int p1, .int p2])).length) Slot.unset).toArray = ls at hl ⊢
  have hl : lv_has ls 3 [(0, .int p0), (1, .int p1), (2, .int p2)] := hl
  refine lv_iload_n hx hb dX8_isIn_0 rfl (lv_at hl 0 rfl) ?_
  refine lv_iload_n hx hb dX8_isIn_1 rfl (lv_at hl 1 rfl) ?_
  refine lv_icmp_lt (tgt := 14) hx hb dX8_isIn_2 (by decide) (fun c_1 => ?_) (fun c_1 => ?_)
  · have f_2 : p0.toInt < p1.toInt := kx_lt c_1
    refine lv_iconst (v := 0) hx hb dX8_isIn_14 (by decide) ?_
    refine W.widen (k := 0) (n := 0) (Nat.le_of_ble_eq_true rfl) (Nat.le_of_ble_eq_true rfl) ?_
    exact W.zret (v := 0) hx hb hr rfl (fun t ht hW => ⟨⟨0, (), rfl, Or.inr (⟨rfl, (by omega)⟩), trivial⟩, hS.F ht⟩) hS.2.2 dX8_isIn_15
  · have f_3 : p1.toInt ≤ p0.toInt := kx_nlt c_1
    refine lv_iload_n hx hb dX8_isIn_5 rfl (lv_at hl 0 rfl) ?_
    refine lv_iload_n hx hb dX8_isIn_6 rfl (lv_at hl 2 rfl) ?_
    refine lv_icmp_gt (tgt := 14) hx hb dX8_isIn_7 (by decide) (fun c_4 => ?_) (fun c_4 => ?_)
    · have f_5 : p2.toInt < p0.toInt := kx_lt c_4
      refine lv_iconst (v := 0) hx hb dX8_isIn_14 (by decide) ?_
      refine W.widen (k := 0) (n := 0) (Nat.le_of_ble_eq_true rfl) (Nat.le_of_ble_eq_true rfl) ?_
      exact W.zret (v := 0) hx hb hr rfl (fun t ht hW => ⟨⟨0, (), rfl, Or.inr (⟨rfl, (by omega)⟩), trivial⟩, hS.F ht⟩) hS.2.2 dX8_isIn_15
    · have f_6 : p0.toInt ≤ p2.toInt := kx_nlt c_4
      refine lv_iconst (v := 1) hx hb dX8_isIn_10 (by decide) ?_
      refine lv_goto (tgt := 15) hx hb dX8_isIn_11 (by decide) ?_
      refine W.widen (k := 0) (n := 0) (Nat.le_of_ble_eq_true rfl) (Nat.le_of_ble_eq_true rfl) ?_
      exact W.zret (v := 1) hx hb hr rfl (fun t ht hW => ⟨⟨1, (), rfl, Or.inl (⟨rfl, (by omega)⟩), trivial⟩, hS.F ht⟩) hS.2.2 dX8_isIn_15
theorem dX8_isNoResource_0 : decode cX8_isNoResource 0 = .ok (.iload_n 0, 1) := by decide +kernel
theorem dX8_isNoResource_1 : decode cX8_isNoResource 1 = .ok (.bipush 99, 2) := by decide +kernel
theorem dX8_isNoResource_3 : decode cX8_isNoResource 3 = .ok (.if_icmp .eq 21, 3) := by decide +kernel
theorem dX8_isNoResource_24 : decode cX8_isNoResource 24 = .ok (.iload_n 1, 1) := by decide +kernel
theorem dX8_isNoResource_25 : decode cX8_isNoResource 25 = .ok (.iconst 0, 1) := by decide +kernel
theorem dX8_isNoResource_26 : decode cX8_isNoResource 26 = .ok (.bipush 20, 2) := by decide +kernel
theorem dX8_isNoResource_28 : decode cX8_isNoResource 28 = .ok (.invokestatic 65, 3) := by decide +kernel
set_option maxRecDepth 20000 in
theorem ggX8_isNoResource_X8_isIn : GoodIn wsX8_isNoResource wsX8_isIn := goodIn_r _ [4] (by decide +kernel) (by decide +kernel)
set_option maxRecDepth 20000 in
theorem gX8_isNoResource_X8_isIn : GoodIn wsX8_isNoResource (va_wsS RX8 65 yX8_isIn wsX8_isIn) := goodIn_app (goodIn_of _ (by decide +kernel)) ggX8_isNoResource_X8_isIn
theorem dX8_isNoResource_31 : decode cX8_isNoResource 31 = .ok (.ifCond .eq 14, 3) := by decide +kernel
theorem dX8_isNoResource_34 : decode cX8_isNoResource 34 = .ok (.iload_n 2, 1) := by decide +kernel
theorem dX8_isNoResource_35 : decode cX8_isNoResource 35 = .ok (.iconst 0, 1) := by decide +kernel
theorem dX8_isNoResource_36 : decode cX8_isNoResource 36 = .ok (.sipush 999, 3) := by decide +kernel
theorem dX8_isNoResource_39 : decode cX8_isNoResource 39 = .ok (.invokestatic 65, 3) := by decide +kernel
theorem dX8_isNoResource_42 : decode cX8_isNoResource 42 = .ok (.ifCond .ne 7, 3) := by decide +kernel
theorem dX8_isNoResource_49 : decode cX8_isNoResource 49 = .ok (.iconst 0, 1) := by decide +kernel
theorem dX8_isNoResource_50 : decode cX8_isNoResource 50 = .ok (.ireturn, 1) := by decide +kernel
theorem dX8_isNoResource_45 : decode cX8_isNoResource 45 = .ok (.iconst 1, 1) := by decide +kernel
theorem dX8_isNoResource_46 : decode cX8_isNoResource 46 = .ok (.goto 4, 3) := by decide +kernel
theorem dX8_isNoResource_6 : decode cX8_isNoResource 6 = .ok (.iload_n 0, 1) := by decide +kernel
theorem dX8_isNoResource_7 : decode cX8_isNoResource 7 = .ok (.bipush 108, 2) := by decide +kernel
theorem dX8_isNoResource_9 : decode cX8_isNoResource 9 = .ok (.if_icmp .eq 15, 3) := by decide +kernel
theorem dX8_isNoResource_12 : decode cX8_isNoResource 12 = .ok (.iload_n 0, 1) := by decide +kernel
theorem dX8_isNoResource_13 : decode cX8_isNoResource 13 = .ok (.bipush 113, 2) := by decide +kernel
theorem dX8_isNoResource_15 : decode cX8_isNoResource 15 = .ok (.if_icmp .eq 9, 3) := by decide +kernel
theorem dX8_isNoResource_18 : decode cX8_isNoResource 18 = .ok (.iload_n 0, 1) := by decide +kernel
theorem dX8_isNoResource_19 : decode cX8_isNoResource 19 = .ok (.bipush 115, 2) := by decide +kernel
theorem dX8_isNoResource_21 : decode cX8_isNoResource 21 = .ok (.if_icmp .ne 24, 3) := by decide +kernel
set_option maxHeartbeats 4000000 in
set_option maxRecDepth 100000 in
theorem k_X8_isNoResource (l : Launch) (D : va_G) (cy : Nat → ClassId) (p0 : Int32) (p1 : Int32) (p2 : Int32) : Met l yX8_isNoResource wsX8_isNoResource ({ frames := 1, cells := 0, slots := 0, locals := 22 }) (kR D cy [.int p0, .int p1, .int p2] []) (va_Qi (fun (r : Int32) (_ : Unit) => ((r = 1 ∧ ¬ (((p0.toInt = (99 : Int) ∨ p0.toInt = (108 : Int) ∨ p0.toInt = (113 : Int) ∨ p0.toInt = (115 : Int)) ∧ ((0 : Int) ≤ p1.toInt ∧ p1.toInt ≤ (20 : Int)) ∧ ((0 : Int) ≤ p2.toInt ∧ p2.toInt ≤ (999 : Int))))) ∨ (r = 0 ∧ ((p0.toInt = (99 : Int) ∨ p0.toInt = (108 : Int) ∨ p0.toInt = (113 : Int) ∨ p0.toInt = (115 : Int)) ∧ ((0 : Int) ≤ p1.toInt ∧ p1.toInt ≤ (20 : Int)) ∧ ((0 : Int) ≤ p2.toInt ∧ p2.toInt ≤ (999 : Int)))))) (fun (_ : Unit) (_ : State) => True) (fun _ : Nat => False)) 0 0 (fun _ : Nat => False) := by
  refine Met.ofW (cc := cX8_isNoResource) (maxL := 3) (ret := (some .boolean)) (by decide) rfl ?_
  intro p e s m args below meth c s₁ B hml hv
  obtain ⟨rfl, hP, hK⟩ := hv
  have hx := B.exec
  have hb := B.bytes
  have hr := B.returns
  have hts := atoms_spec (ws := wsX8_isNoResource) B.pre
  have hown : s.vm.findClass RX8 = some m.cls := findClass_of_methodNamed B.named
  have hlocks := B.notSynchronized
  have hS : va_S (fun _ : Nat => False) s.heap s.heap [] := va_S.rf
  have hP : va_P D vwCl [] s.heap := hP
  have hl := lv_entry ([.int p0, .int p1, .int p2]) (n := 3) (Nat.le_of_ble_eq_true rfl)
  rw [lg_entry_eq]
  generalize (lg_sl ([.int p0, .int p1, .int p2]) ++ List.replicate (3 - (lg_sl ([.int p0, .int p1, .int p2])).length) Slot.unset).toArray = ls at hl ⊢
  have hl : lv_has ls 3 [(0, .int p0), (1, .int p1), (2, .int p2)] := hl
  refine lv_iload_n hx hb dX8_isNoResource_0 rfl (lv_at hl 0 rfl) ?_
  refine lv_bipush (v := 99) hx hb dX8_isNoResource_1 (by decide) ?_
  refine lv_icmp_eq (tgt := 24) hx hb dX8_isNoResource_3 (by decide) (fun c_1 => ?_) (fun c_1 => ?_)
  · have f_2 : p0.toInt = (99 : Int) := kx_eq c_1
    refine lv_iload_n hx hb dX8_isNoResource_24 rfl (lv_at hl 1 rfl) ?_
    refine lv_iconst (v := 0) hx hb dX8_isNoResource_25 (by decide) ?_
    refine lv_bipush (v := 20) hx hb dX8_isNoResource_26 (by decide) ?_
    have hPc := hP.sub (ws' := []) [] rfl
    refine va_calli (va_runS (As := [.int p1, .int 0, .int 20]) (rest := []) ⟨hx, hb, hml, hown, hts⟩ (k_X8_isIn l D cy p1 0 20) (va_cwS 3 hts gX8_isNoResource_X8_isIn rfl rfl rfl (by decide +kernel) ⟨(Nat.le_of_ble_eq_true rfl), (Nat.le_of_ble_eq_true rfl)⟩) ⟨kR_fb, (kR_go hPc hK)⟩ rfl rfl hl.1 rfl (lv_room (Nat.le_of_ble_eq_true rfl)) dX8_isNoResource_28 ⟨(Nat.le_of_ble_eq_true rfl), (Nat.le_of_ble_eq_true rfl)⟩) hS (fun _ _ h => h.elim) (fun _ h => h.elim) (fun r9 u t H locs ht hvm hw hB hz1 hk1 hS => ?_)
    have hP := kx_kept hP hk1
    rcases hw with ⟨rfl, hw⟩ | ⟨rfl, hw⟩
    · have f_3 : ((0 : Int) ≤ p1.toInt ∧ p1.toInt ≤ (20 : Int)) := hw
      refine lv_if_eq (tgt := 45) hx hb dX8_isNoResource_31 (by decide) (fun h => absurd h (by decide)) (fun _ => ?_)
      refine lv_iload_n hx hb dX8_isNoResource_34 rfl (lv_at hl 2 rfl) ?_
      refine lv_iconst (v := 0) hx hb dX8_isNoResource_35 (by decide) ?_
      refine lv_sipush (v := 999) hx hb dX8_isNoResource_36 (by decide) ?_
      have hPc := hP.sub (ws' := []) [] rfl
      refine va_calli (va_runS (As := [.int p2, .int 0, .int 999]) (rest := []) ⟨hx, hb, hml, hown, hts⟩ (k_X8_isIn l D cy p2 0 999) (va_cwS 3 hts gX8_isNoResource_X8_isIn rfl rfl rfl (by decide +kernel) ⟨(Nat.le_of_ble_eq_true rfl), (Nat.le_of_ble_eq_true rfl)⟩) ⟨kR_fb, (kR_go hPc hK)⟩ rfl rfl hl.1 rfl (lv_room (Nat.le_of_ble_eq_true rfl)) dX8_isNoResource_39 ⟨(Nat.le_of_ble_eq_true rfl), (Nat.le_of_ble_eq_true rfl)⟩) hS (fun _ _ h => h.elim) (fun _ h => h.elim) (fun r9 u t H locs ht hvm hw hB hz1 hk1 hS => ?_)
      have hP := kx_kept hP hk1
      rcases hw with ⟨rfl, hw⟩ | ⟨rfl, hw⟩
      · have f_4 : ((0 : Int) ≤ p2.toInt ∧ p2.toInt ≤ (999 : Int)) := hw
        refine lv_if_ne (tgt := 49) hx hb dX8_isNoResource_42 (by decide) (fun _ => ?_) (fun h => absurd h (by decide))
        refine lv_iconst (v := 0) hx hb dX8_isNoResource_49 (by decide) ?_
        refine W.widen (k := 0) (n := 0) (Nat.le_of_ble_eq_true rfl) (Nat.le_of_ble_eq_true rfl) ?_
        exact W.zret (v := 0) hx hb hr rfl (fun t ht hW => ⟨⟨0, (), rfl, Or.inr (⟨rfl, (by omega)⟩), trivial⟩, hS.F ht⟩) hS.2.2 dX8_isNoResource_50
      · have f_5 : ¬ (((0 : Int) ≤ p2.toInt ∧ p2.toInt ≤ (999 : Int))) := hw
        refine lv_if_ne (tgt := 49) hx hb dX8_isNoResource_42 (by decide) (fun h => absurd (by decide) h) (fun _ => ?_)
        refine lv_iconst (v := 1) hx hb dX8_isNoResource_45 (by decide) ?_
        refine lv_goto (tgt := 50) hx hb dX8_isNoResource_46 (by decide) ?_
        refine W.widen (k := 0) (n := 0) (Nat.le_of_ble_eq_true rfl) (Nat.le_of_ble_eq_true rfl) ?_
        exact W.zret (v := 1) hx hb hr rfl (fun t ht hW => ⟨⟨1, (), rfl, Or.inl (⟨rfl, (by omega)⟩), trivial⟩, hS.F ht⟩) hS.2.2 dX8_isNoResource_50
    · have f_6 : ¬ (((0 : Int) ≤ p1.toInt ∧ p1.toInt ≤ (20 : Int))) := hw
      refine lv_if_eq (tgt := 45) hx hb dX8_isNoResource_31 (by decide) (fun _ => ?_) (fun h => absurd (by decide) h)
      refine lv_iconst (v := 1) hx hb dX8_isNoResource_45 (by decide) ?_
      refine lv_goto (tgt := 50) hx hb dX8_isNoResource_46 (by decide) ?_
      refine W.widen (k := 0) (n := 0) (Nat.le_of_ble_eq_true rfl) (Nat.le_of_ble_eq_true rfl) ?_
      exact W.zret (v := 1) hx hb hr rfl (fun t ht hW => ⟨⟨1, (), rfl, Or.inl (⟨rfl, (by omega)⟩), trivial⟩, hS.F ht⟩) hS.2.2 dX8_isNoResource_50
  · have f_7 : p0.toInt ≠ (99 : Int) := kx_ne c_1
    refine lv_iload_n hx hb dX8_isNoResource_6 rfl (lv_at hl 0 rfl) ?_
    refine lv_bipush (v := 108) hx hb dX8_isNoResource_7 (by decide) ?_
    refine lv_icmp_eq (tgt := 24) hx hb dX8_isNoResource_9 (by decide) (fun c_8 => ?_) (fun c_8 => ?_)
    · have f_9 : p0.toInt = (108 : Int) := kx_eq c_8
      refine lv_iload_n hx hb dX8_isNoResource_24 rfl (lv_at hl 1 rfl) ?_
      refine lv_iconst (v := 0) hx hb dX8_isNoResource_25 (by decide) ?_
      refine lv_bipush (v := 20) hx hb dX8_isNoResource_26 (by decide) ?_
      have hPc := hP.sub (ws' := []) [] rfl
      refine va_calli (va_runS (As := [.int p1, .int 0, .int 20]) (rest := []) ⟨hx, hb, hml, hown, hts⟩ (k_X8_isIn l D cy p1 0 20) (va_cwS 3 hts gX8_isNoResource_X8_isIn rfl rfl rfl (by decide +kernel) ⟨(Nat.le_of_ble_eq_true rfl), (Nat.le_of_ble_eq_true rfl)⟩) ⟨kR_fb, (kR_go hPc hK)⟩ rfl rfl hl.1 rfl (lv_room (Nat.le_of_ble_eq_true rfl)) dX8_isNoResource_28 ⟨(Nat.le_of_ble_eq_true rfl), (Nat.le_of_ble_eq_true rfl)⟩) hS (fun _ _ h => h.elim) (fun _ h => h.elim) (fun r9 u t H locs ht hvm hw hB hz1 hk1 hS => ?_)
      have hP := kx_kept hP hk1
      rcases hw with ⟨rfl, hw⟩ | ⟨rfl, hw⟩
      · have f_10 : ((0 : Int) ≤ p1.toInt ∧ p1.toInt ≤ (20 : Int)) := hw
        refine lv_if_eq (tgt := 45) hx hb dX8_isNoResource_31 (by decide) (fun h => absurd h (by decide)) (fun _ => ?_)
        refine lv_iload_n hx hb dX8_isNoResource_34 rfl (lv_at hl 2 rfl) ?_
        refine lv_iconst (v := 0) hx hb dX8_isNoResource_35 (by decide) ?_
        refine lv_sipush (v := 999) hx hb dX8_isNoResource_36 (by decide) ?_
        have hPc := hP.sub (ws' := []) [] rfl
        refine va_calli (va_runS (As := [.int p2, .int 0, .int 999]) (rest := []) ⟨hx, hb, hml, hown, hts⟩ (k_X8_isIn l D cy p2 0 999) (va_cwS 3 hts gX8_isNoResource_X8_isIn rfl rfl rfl (by decide +kernel) ⟨(Nat.le_of_ble_eq_true rfl), (Nat.le_of_ble_eq_true rfl)⟩) ⟨kR_fb, (kR_go hPc hK)⟩ rfl rfl hl.1 rfl (lv_room (Nat.le_of_ble_eq_true rfl)) dX8_isNoResource_39 ⟨(Nat.le_of_ble_eq_true rfl), (Nat.le_of_ble_eq_true rfl)⟩) hS (fun _ _ h => h.elim) (fun _ h => h.elim) (fun r9 u t H locs ht hvm hw hB hz1 hk1 hS => ?_)
        have hP := kx_kept hP hk1
        rcases hw with ⟨rfl, hw⟩ | ⟨rfl, hw⟩
        · have f_11 : ((0 : Int) ≤ p2.toInt ∧ p2.toInt ≤ (999 : Int)) := hw
          refine lv_if_ne (tgt := 49) hx hb dX8_isNoResource_42 (by decide) (fun _ => ?_) (fun h => absurd h (by decide))
          refine lv_iconst (v := 0) hx hb dX8_isNoResource_49 (by decide) ?_
          refine W.widen (k := 0) (n := 0) (Nat.le_of_ble_eq_true rfl) (Nat.le_of_ble_eq_true rfl) ?_
          exact W.zret (v := 0) hx hb hr rfl (fun t ht hW => ⟨⟨0, (), rfl, Or.inr (⟨rfl, (by omega)⟩), trivial⟩, hS.F ht⟩) hS.2.2 dX8_isNoResource_50
        · have f_12 : ¬ (((0 : Int) ≤ p2.toInt ∧ p2.toInt ≤ (999 : Int))) := hw
          refine lv_if_ne (tgt := 49) hx hb dX8_isNoResource_42 (by decide) (fun h => absurd (by decide) h) (fun _ => ?_)
          refine lv_iconst (v := 1) hx hb dX8_isNoResource_45 (by decide) ?_
          refine lv_goto (tgt := 50) hx hb dX8_isNoResource_46 (by decide) ?_
          refine W.widen (k := 0) (n := 0) (Nat.le_of_ble_eq_true rfl) (Nat.le_of_ble_eq_true rfl) ?_
          exact W.zret (v := 1) hx hb hr rfl (fun t ht hW => ⟨⟨1, (), rfl, Or.inl (⟨rfl, (by omega)⟩), trivial⟩, hS.F ht⟩) hS.2.2 dX8_isNoResource_50
      · have f_13 : ¬ (((0 : Int) ≤ p1.toInt ∧ p1.toInt ≤ (20 : Int))) := hw
        refine lv_if_eq (tgt := 45) hx hb dX8_isNoResource_31 (by decide) (fun _ => ?_) (fun h => absurd (by decide) h)
        refine lv_iconst (v := 1) hx hb dX8_isNoResource_45 (by decide) ?_
        refine lv_goto (tgt := 50) hx hb dX8_isNoResource_46 (by decide) ?_
        refine W.widen (k := 0) (n := 0) (Nat.le_of_ble_eq_true rfl) (Nat.le_of_ble_eq_true rfl) ?_
        exact W.zret (v := 1) hx hb hr rfl (fun t ht hW => ⟨⟨1, (), rfl, Or.inl (⟨rfl, (by omega)⟩), trivial⟩, hS.F ht⟩) hS.2.2 dX8_isNoResource_50
    · have f_14 : p0.toInt ≠ (108 : Int) := kx_ne c_8
      refine lv_iload_n hx hb dX8_isNoResource_12 rfl (lv_at hl 0 rfl) ?_
      refine lv_bipush (v := 113) hx hb dX8_isNoResource_13 (by decide) ?_
      refine lv_icmp_eq (tgt := 24) hx hb dX8_isNoResource_15 (by decide) (fun c_15 => ?_) (fun c_15 => ?_)
      · have f_16 : p0.toInt = (113 : Int) := kx_eq c_15
        refine lv_iload_n hx hb dX8_isNoResource_24 rfl (lv_at hl 1 rfl) ?_
        refine lv_iconst (v := 0) hx hb dX8_isNoResource_25 (by decide) ?_
        refine lv_bipush (v := 20) hx hb dX8_isNoResource_26 (by decide) ?_
        have hPc := hP.sub (ws' := []) [] rfl
        refine va_calli (va_runS (As := [.int p1, .int 0, .int 20]) (rest := []) ⟨hx, hb, hml, hown, hts⟩ (k_X8_isIn l D cy p1 0 20) (va_cwS 3 hts gX8_isNoResource_X8_isIn rfl rfl rfl (by decide +kernel) ⟨(Nat.le_of_ble_eq_true rfl), (Nat.le_of_ble_eq_true rfl)⟩) ⟨kR_fb, (kR_go hPc hK)⟩ rfl rfl hl.1 rfl (lv_room (Nat.le_of_ble_eq_true rfl)) dX8_isNoResource_28 ⟨(Nat.le_of_ble_eq_true rfl), (Nat.le_of_ble_eq_true rfl)⟩) hS (fun _ _ h => h.elim) (fun _ h => h.elim) (fun r9 u t H locs ht hvm hw hB hz1 hk1 hS => ?_)
        have hP := kx_kept hP hk1
        rcases hw with ⟨rfl, hw⟩ | ⟨rfl, hw⟩
        · have f_17 : ((0 : Int) ≤ p1.toInt ∧ p1.toInt ≤ (20 : Int)) := hw
          refine lv_if_eq (tgt := 45) hx hb dX8_isNoResource_31 (by decide) (fun h => absurd h (by decide)) (fun _ => ?_)
          refine lv_iload_n hx hb dX8_isNoResource_34 rfl (lv_at hl 2 rfl) ?_
          refine lv_iconst (v := 0) hx hb dX8_isNoResource_35 (by decide) ?_
          refine lv_sipush (v := 999) hx hb dX8_isNoResource_36 (by decide) ?_
          have hPc := hP.sub (ws' := []) [] rfl
          refine va_calli (va_runS (As := [.int p2, .int 0, .int 999]) (rest := []) ⟨hx, hb, hml, hown, hts⟩ (k_X8_isIn l D cy p2 0 999) (va_cwS 3 hts gX8_isNoResource_X8_isIn rfl rfl rfl (by decide +kernel) ⟨(Nat.le_of_ble_eq_true rfl), (Nat.le_of_ble_eq_true rfl)⟩) ⟨kR_fb, (kR_go hPc hK)⟩ rfl rfl hl.1 rfl (lv_room (Nat.le_of_ble_eq_true rfl)) dX8_isNoResource_39 ⟨(Nat.le_of_ble_eq_true rfl), (Nat.le_of_ble_eq_true rfl)⟩) hS (fun _ _ h => h.elim) (fun _ h => h.elim) (fun r9 u t H locs ht hvm hw hB hz1 hk1 hS => ?_)
          have hP := kx_kept hP hk1
          rcases hw with ⟨rfl, hw⟩ | ⟨rfl, hw⟩
          · have f_18 : ((0 : Int) ≤ p2.toInt ∧ p2.toInt ≤ (999 : Int)) := hw
            refine lv_if_ne (tgt := 49) hx hb dX8_isNoResource_42 (by decide) (fun _ => ?_) (fun h => absurd h (by decide))
            refine lv_iconst (v := 0) hx hb dX8_isNoResource_49 (by decide) ?_
            refine W.widen (k := 0) (n := 0) (Nat.le_of_ble_eq_true rfl) (Nat.le_of_ble_eq_true rfl) ?_
            exact W.zret (v := 0) hx hb hr rfl (fun t ht hW => ⟨⟨0, (), rfl, Or.inr (⟨rfl, (by omega)⟩), trivial⟩, hS.F ht⟩) hS.2.2 dX8_isNoResource_50
          · have f_19 : ¬ (((0 : Int) ≤ p2.toInt ∧ p2.toInt ≤ (999 : Int))) := hw
            refine lv_if_ne (tgt := 49) hx hb dX8_isNoResource_42 (by decide) (fun h => absurd (by decide) h) (fun _ => ?_)
            refine lv_iconst (v := 1) hx hb dX8_isNoResource_45 (by decide) ?_
            refine lv_goto (tgt := 50) hx hb dX8_isNoResource_46 (by decide) ?_
            refine W.widen (k := 0) (n := 0) (Nat.le_of_ble_eq_true rfl) (Nat.le_of_ble_eq_true rfl) ?_
            exact W.zret (v := 1) hx hb hr rfl (fun t ht hW => ⟨⟨1, (), rfl, Or.inl (⟨rfl, (by omega)⟩), trivial⟩, hS.F ht⟩) hS.2.2 dX8_isNoResource_50
        · have f_20 : ¬ (((0 : Int) ≤ p1.toInt ∧ p1.toInt ≤ (20 : Int))) := hw
          refine lv_if_eq (tgt := 45) hx hb dX8_isNoResource_31 (by decide) (fun _ => ?_) (fun h => absurd (by decide) h)
          refine lv_iconst (v := 1) hx hb dX8_isNoResource_45 (by decide) ?_
          refine lv_goto (tgt := 50) hx hb dX8_isNoResource_46 (by decide) ?_
          refine W.widen (k := 0) (n := 0) (Nat.le_of_ble_eq_true rfl) (Nat.le_of_ble_eq_true rfl) ?_
          exact W.zret (v := 1) hx hb hr rfl (fun t ht hW => ⟨⟨1, (), rfl, Or.inl (⟨rfl, (by omega)⟩), trivial⟩, hS.F ht⟩) hS.2.2 dX8_isNoResource_50
      · have f_21 : p0.toInt ≠ (113 : Int) := kx_ne c_15
        refine lv_iload_n hx hb dX8_isNoResource_18 rfl (lv_at hl 0 rfl) ?_
        refine lv_bipush (v := 115) hx hb dX8_isNoResource_19 (by decide) ?_
        refine lv_icmp_ne (tgt := 45) hx hb dX8_isNoResource_21 (by decide) (fun c_22 => ?_) (fun c_22 => ?_)
        · have f_23 : p0.toInt ≠ (115 : Int) := kx_ne c_22
          refine lv_iconst (v := 1) hx hb dX8_isNoResource_45 (by decide) ?_
          refine lv_goto (tgt := 50) hx hb dX8_isNoResource_46 (by decide) ?_
          refine W.widen (k := 0) (n := 0) (Nat.le_of_ble_eq_true rfl) (Nat.le_of_ble_eq_true rfl) ?_
          exact W.zret (v := 1) hx hb hr rfl (fun t ht hW => ⟨⟨1, (), rfl, Or.inl (⟨rfl, (by omega)⟩), trivial⟩, hS.F ht⟩) hS.2.2 dX8_isNoResource_50
        · have f_24 : p0.toInt = (115 : Int) := kx_eq c_22
          refine lv_iload_n hx hb dX8_isNoResource_24 rfl (lv_at hl 1 rfl) ?_
          refine lv_iconst (v := 0) hx hb dX8_isNoResource_25 (by decide) ?_
          refine lv_bipush (v := 20) hx hb dX8_isNoResource_26 (by decide) ?_
          have hPc := hP.sub (ws' := []) [] rfl
          refine va_calli (va_runS (As := [.int p1, .int 0, .int 20]) (rest := []) ⟨hx, hb, hml, hown, hts⟩ (k_X8_isIn l D cy p1 0 20) (va_cwS 3 hts gX8_isNoResource_X8_isIn rfl rfl rfl (by decide +kernel) ⟨(Nat.le_of_ble_eq_true rfl), (Nat.le_of_ble_eq_true rfl)⟩) ⟨kR_fb, (kR_go hPc hK)⟩ rfl rfl hl.1 rfl (lv_room (Nat.le_of_ble_eq_true rfl)) dX8_isNoResource_28 ⟨(Nat.le_of_ble_eq_true rfl), (Nat.le_of_ble_eq_true rfl)⟩) hS (fun _ _ h => h.elim) (fun _ h => h.elim) (fun r9 u t H locs ht hvm hw hB hz1 hk1 hS => ?_)
          have hP := kx_kept hP hk1
          rcases hw with ⟨rfl, hw⟩ | ⟨rfl, hw⟩
          · have f_25 : ((0 : Int) ≤ p1.toInt ∧ p1.toInt ≤ (20 : Int)) := hw
            refine lv_if_eq (tgt := 45) hx hb dX8_isNoResource_31 (by decide) (fun h => absurd h (by decide)) (fun _ => ?_)
            refine lv_iload_n hx hb dX8_isNoResource_34 rfl (lv_at hl 2 rfl) ?_
            refine lv_iconst (v := 0) hx hb dX8_isNoResource_35 (by decide) ?_
            refine lv_sipush (v := 999) hx hb dX8_isNoResource_36 (by decide) ?_
            have hPc := hP.sub (ws' := []) [] rfl
            refine va_calli (va_runS (As := [.int p2, .int 0, .int 999]) (rest := []) ⟨hx, hb, hml, hown, hts⟩ (k_X8_isIn l D cy p2 0 999) (va_cwS 3 hts gX8_isNoResource_X8_isIn rfl rfl rfl (by decide +kernel) ⟨(Nat.le_of_ble_eq_true rfl), (Nat.le_of_ble_eq_true rfl)⟩) ⟨kR_fb, (kR_go hPc hK)⟩ rfl rfl hl.1 rfl (lv_room (Nat.le_of_ble_eq_true rfl)) dX8_isNoResource_39 ⟨(Nat.le_of_ble_eq_true rfl), (Nat.le_of_ble_eq_true rfl)⟩) hS (fun _ _ h => h.elim) (fun _ h => h.elim) (fun r9 u t H locs ht hvm hw hB hz1 hk1 hS => ?_)
            have hP := kx_kept hP hk1
            rcases hw with ⟨rfl, hw⟩ | ⟨rfl, hw⟩
            · have f_26 : ((0 : Int) ≤ p2.toInt ∧ p2.toInt ≤ (999 : Int)) := hw
              refine lv_if_ne (tgt := 49) hx hb dX8_isNoResource_42 (by decide) (fun _ => ?_) (fun h => absurd h (by decide))
              refine lv_iconst (v := 0) hx hb dX8_isNoResource_49 (by decide) ?_
              refine W.widen (k := 0) (n := 0) (Nat.le_of_ble_eq_true rfl) (Nat.le_of_ble_eq_true rfl) ?_
              exact W.zret (v := 0) hx hb hr rfl (fun t ht hW => ⟨⟨0, (), rfl, Or.inr (⟨rfl, (by omega)⟩), trivial⟩, hS.F ht⟩) hS.2.2 dX8_isNoResource_50
            · have f_27 : ¬ (((0 : Int) ≤ p2.toInt ∧ p2.toInt ≤ (999 : Int))) := hw
              refine lv_if_ne (tgt := 49) hx hb dX8_isNoResource_42 (by decide) (fun h => absurd (by decide) h) (fun _ => ?_)
              refine lv_iconst (v := 1) hx hb dX8_isNoResource_45 (by decide) ?_
              refine lv_goto (tgt := 50) hx hb dX8_isNoResource_46 (by decide) ?_
              refine W.widen (k := 0) (n := 0) (Nat.le_of_ble_eq_true rfl) (Nat.le_of_ble_eq_true rfl) ?_
              exact W.zret (v := 1) hx hb hr rfl (fun t ht hW => ⟨⟨1, (), rfl, Or.inl (⟨rfl, (by omega)⟩), trivial⟩, hS.F ht⟩) hS.2.2 dX8_isNoResource_50
          · have f_28 : ¬ (((0 : Int) ≤ p1.toInt ∧ p1.toInt ≤ (20 : Int))) := hw
            refine lv_if_eq (tgt := 45) hx hb dX8_isNoResource_31 (by decide) (fun _ => ?_) (fun h => absurd (by decide) h)
            refine lv_iconst (v := 1) hx hb dX8_isNoResource_45 (by decide) ?_
            refine lv_goto (tgt := 50) hx hb dX8_isNoResource_46 (by decide) ?_
            refine W.widen (k := 0) (n := 0) (Nat.le_of_ble_eq_true rfl) (Nat.le_of_ble_eq_true rfl) ?_
            exact W.zret (v := 1) hx hb hr rfl (fun t ht hW => ⟨⟨1, (), rfl, Or.inl (⟨rfl, (by omega)⟩), trivial⟩, hS.F ht⟩) hS.2.2 dX8_isNoResource_50
theorem dX8_isThrown_0 : decode cX8_isThrown 0 = .ok (.aload_n 0, 1) := by decide +kernel
theorem dX8_isThrown_1 : decode cX8_isThrown 1 = .ok (.iload_n 1, 1) := by decide +kernel
theorem dX8_isThrown_2 : decode cX8_isThrown 2 = .ok (.ifCond .eq 7, 3) := by decide +kernel
theorem dX8_isThrown_5 : decode cX8_isThrown 5 = .ok (.iload_n 2, 1) := by decide +kernel
theorem dX8_isThrown_6 : decode cX8_isThrown 6 = .ok (.goto 4, 3) := by decide +kernel
theorem dX8_isThrown_10 : decode cX8_isThrown 10 = .ok (.putfield 59, 3) := by decide +kernel
theorem dX8_isThrown_13 : decode cX8_isThrown 13 = .ok (.iload_n 1, 1) := by decide +kernel
theorem dX8_isThrown_14 : decode cX8_isThrown 14 = .ok (.ireturn, 1) := by decide +kernel
set_option maxHeartbeats 4000000 in
set_option maxRecDepth 100000 in
theorem k_X8_isThrown (l : Launch) (D : va_G) (cy : Nat → ClassId) (h1 : Nat) (x2 : Value) (x3 : Value) (x4 : Value) (x5 : Value) (x6 : Value) (x7 : Value) (x8 : Value) (x9 : Value) (x10 : Value) (x11 : Value) (x12 : Value) (x13 : Value) (x14 : Value) (x15 : Value) (x16 : Value) (x17 : Value) (x18 : Value) (x19 : Value) (sz : Nat) : Met l yX8_isThrown wsX8_isThrown ({ frames := 0, cells := 0, slots := 0, locals := 0 }) (kW D cy [.ref h1, .int 1, .int 1] [(h1, .inr (10, [x2, x3, x4, x5, x6, x7, x8, x9, x10, x11, x12, x13, x14, x15, x16, x17, x18, x19]))] sz) (va_Qi (fun (r : Int32) (_ : Unit) => r = 1 ∧ True) (fun (_ : Unit) (t : State) => va_P D vwCl [(h1, .inr (10, [x2, x3, x4, x5, x6, x7, x8, x9, x10, x11, x12, x13, x14, x15, x16, x17, x18, .int 1]))] t.heap ∧ va_D (va_A [(h1, .inr (10, [x2, x3, x4, x5, x6, x7, x8, x9, x10, x11, x12, x13, x14, x15, x16, x17, x18, x19]))] sz) [(h1, .inr (10, [x2, x3, x4, x5, x6, x7, x8, x9, x10, x11, x12, x13, x14, x15, x16, x17, x18, .int 1]))]) (va_A [(h1, .inr (10, [x2, x3, x4, x5, x6, x7, x8, x9, x10, x11, x12, x13, x14, x15, x16, x17, x18, x19]))] sz)) 0 0 (va_A [(h1, .inr (10, [x2, x3, x4, x5, x6, x7, x8, x9, x10, x11, x12, x13, x14, x15, x16, x17, x18, x19]))] sz) := by
  refine Met.ofW (cc := cX8_isThrown) (maxL := 3) (ret := (some .boolean)) (by decide) rfl ?_
  intro p e s m args below meth c s₁ B hml hv
  obtain ⟨rfl, hsz, hP, hK, hD0⟩ := hv
  have hx := B.exec
  have hb := B.bytes
  have hr := B.returns
  have hts := atoms_spec (ws := wsX8_isThrown) B.pre
  have hown : s.vm.findClass RX8 = some m.cls := findClass_of_methodNamed B.named
  have hlocks := B.notSynchronized
  subst hsz
  have hD := hD0.self (sz := s.heap.size)
  generalize hAe : va_A [(h1, .inr (10, [x2, x3, x4, x5, x6, x7, x8, x9, x10, x11, x12, x13, x14, x15, x16, x17, x18, x19]))] s.heap.size = A at hD ⊢
  have hA : ∀ q : Nat, s.heap.size ≤ q → A q := fun q h => by rw [← hAe]; exact Or.inr h
  have hS : va_S A s.heap s.heap [] := va_S.rf
  have hP : va_P D vwCl [(h1, .inr (10, [x2, x3, x4, x5, x6, x7, x8, x9, x10, x11, x12, x13, x14, x15, x16, x17, x18, x19]))] s.heap := hP
  have hl := lv_entry ([.ref h1, .int 1, .int 1]) (n := 3) (Nat.le_of_ble_eq_true rfl)
  rw [lg_entry_eq]
  generalize (lg_sl ([.ref h1, .int 1, .int 1]) ++ List.replicate (3 - (lg_sl ([.ref h1, .int 1, .int 1])).length) Slot.unset).toArray = ls at hl ⊢
  have hl : lv_has ls 3 [(0, .ref h1), (1, .int 1), (2, .int 1)] := hl
  refine lv_aload_n hx hb dX8_isThrown_0 rfl (lv_at hl 0 rfl) ?_
  refine lv_iload_n hx hb dX8_isThrown_1 rfl (lv_at hl 1 rfl) ?_
  refine lv_if_eq (tgt := 9) hx hb dX8_isThrown_2 (by decide) (fun h => absurd h (by decide)) (fun _ => ?_)
  refine lv_iload_n hx hb dX8_isThrown_5 rfl (lv_at hl 2 rfl) ?_
  refine lv_goto (tgt := 10) hx hb dX8_isThrown_6 (by decide) ?_
  refine va_put (D := D) (ci := 10) (v := .int 1) (ty := .int) (C := RX8) (T := TX8) (N := 18) hx hb hts (fun _ h => (List.mem_cons_of_mem _ (List.mem_append_right _ h))) tyX8 tyX8_ok nmX8 hown hK hP hD hS 0 rfl rfl 17 (by decide) (hts (.fieldLink RX8 59 "SelfishJunctionModel" "thrown" "I") (List.mem_cons_of_mem _ (List.mem_append_left _ (List.mem_of_getElem? (i := 0) rfl)))) (fun _ h9 => h9) rfl (by decide +kernel) rfl rfl (Nat.le_of_ble_eq_true rfl) dX8_isThrown_10 (fun H locs hP hD hS => ?_)
  have hP : va_P D vwCl [(h1, .inr (10, [x2, x3, x4, x5, x6, x7, x8, x9, x10, x11, x12, x13, x14, x15, x16, x17, x18, .int 1]))] H := hP
  have hD : va_D A [(h1, .inr (10, [x2, x3, x4, x5, x6, x7, x8, x9, x10, x11, x12, x13, x14, x15, x16, x17, x18, .int 1]))] := hD
  refine lv_iload_n hx hb dX8_isThrown_13 rfl (lv_at hl 1 rfl) ?_
  refine W.widen (k := 0) (n := 0) (Nat.le_of_ble_eq_true rfl) (Nat.le_of_ble_eq_true rfl) ?_
  have hP9 := hP.sub (ws' := [(h1, .inr (10, [x2, x3, x4, x5, x6, x7, x8, x9, x10, x11, x12, x13, x14, x15, x16, x17, x18, .int 1]))]) [0] rfl
  have hD9 := hD.sub (ws' := [(h1, .inr (10, [x2, x3, x4, x5, x6, x7, x8, x9, x10, x11, x12, x13, x14, x15, x16, x17, x18, .int 1]))]) [0] (by decide) rfl
  exact W.zret (v := 1) hx hb hr rfl (fun t ht hW => ⟨⟨1, (), rfl, ⟨rfl, trivial⟩, ⟨by rw [ht]; exact hP9, hD9⟩⟩, hS.F ht⟩) hS.2.2 dX8_isThrown_14
theorem dX8_isThrown_9 : decode cX8_isThrown 9 = .ok (.iconst 0, 1) := by decide +kernel
set_option maxHeartbeats 4000000 in
set_option maxRecDepth 100000 in
theorem k_X8_isThrown_1 (l : Launch) (D : va_G) (cy : Nat → ClassId) (h1 : Nat) (x2 : Value) (x3 : Value) (x4 : Value) (x5 : Value) (x6 : Value) (x7 : Value) (x8 : Value) (x9 : Value) (x10 : Value) (x11 : Value) (x12 : Value) (x13 : Value) (x14 : Value) (x15 : Value) (x16 : Value) (x17 : Value) (x18 : Value) (x19 : Value) (sz : Nat) : Met l yX8_isThrown wsX8_isThrown ({ frames := 0, cells := 0, slots := 0, locals := 0 }) (kW D cy [.ref h1, .int 0, .int 1] [(h1, .inr (10, [x2, x3, x4, x5, x6, x7, x8, x9, x10, x11, x12, x13, x14, x15, x16, x17, x18, x19]))] sz) (va_Qi (fun (r : Int32) (_ : Unit) => r = 0 ∧ True) (fun (_ : Unit) (t : State) => va_P D vwCl [(h1, .inr (10, [x2, x3, x4, x5, x6, x7, x8, x9, x10, x11, x12, x13, x14, x15, x16, x17, x18, .int 0]))] t.heap ∧ va_D (va_A [(h1, .inr (10, [x2, x3, x4, x5, x6, x7, x8, x9, x10, x11, x12, x13, x14, x15, x16, x17, x18, x19]))] sz) [(h1, .inr (10, [x2, x3, x4, x5, x6, x7, x8, x9, x10, x11, x12, x13, x14, x15, x16, x17, x18, .int 0]))]) (va_A [(h1, .inr (10, [x2, x3, x4, x5, x6, x7, x8, x9, x10, x11, x12, x13, x14, x15, x16, x17, x18, x19]))] sz)) 0 0 (va_A [(h1, .inr (10, [x2, x3, x4, x5, x6, x7, x8, x9, x10, x11, x12, x13, x14, x15, x16, x17, x18, x19]))] sz) := by
  refine Met.ofW (cc := cX8_isThrown) (maxL := 3) (ret := (some .boolean)) (by decide) rfl ?_
  intro p e s m args below meth c s₁ B hml hv
  obtain ⟨rfl, hsz, hP, hK, hD0⟩ := hv
  have hx := B.exec
  have hb := B.bytes
  have hr := B.returns
  have hts := atoms_spec (ws := wsX8_isThrown) B.pre
  have hown : s.vm.findClass RX8 = some m.cls := findClass_of_methodNamed B.named
  have hlocks := B.notSynchronized
  subst hsz
  have hD := hD0.self (sz := s.heap.size)
  generalize hAe : va_A [(h1, .inr (10, [x2, x3, x4, x5, x6, x7, x8, x9, x10, x11, x12, x13, x14, x15, x16, x17, x18, x19]))] s.heap.size = A at hD ⊢
  have hA : ∀ q : Nat, s.heap.size ≤ q → A q := fun q h => by rw [← hAe]; exact Or.inr h
  have hS : va_S A s.heap s.heap [] := va_S.rf
  have hP : va_P D vwCl [(h1, .inr (10, [x2, x3, x4, x5, x6, x7, x8, x9, x10, x11, x12, x13, x14, x15, x16, x17, x18, x19]))] s.heap := hP
  have hl := lv_entry ([.ref h1, .int 0, .int 1]) (n := 3) (Nat.le_of_ble_eq_true rfl)
  rw [lg_entry_eq]
  generalize (lg_sl ([.ref h1, .int 0, .int 1]) ++ List.replicate (3 - (lg_sl ([.ref h1, .int 0, .int 1])).length) Slot.unset).toArray = ls at hl ⊢
  have hl : lv_has ls 3 [(0, .ref h1), (1, .int 0), (2, .int 1)] := hl
  refine lv_aload_n hx hb dX8_isThrown_0 rfl (lv_at hl 0 rfl) ?_
  refine lv_iload_n hx hb dX8_isThrown_1 rfl (lv_at hl 1 rfl) ?_
  refine lv_if_eq (tgt := 9) hx hb dX8_isThrown_2 (by decide) (fun _ => ?_) (fun h => absurd (by decide) h)
  refine lv_iconst (v := 0) hx hb dX8_isThrown_9 (by decide) ?_
  refine va_put (D := D) (ci := 10) (v := .int 0) (ty := .int) (C := RX8) (T := TX8) (N := 18) hx hb hts (fun _ h => (List.mem_cons_of_mem _ (List.mem_append_right _ h))) tyX8 tyX8_ok nmX8 hown hK hP hD hS 0 rfl rfl 17 (by decide) (hts (.fieldLink RX8 59 "SelfishJunctionModel" "thrown" "I") (List.mem_cons_of_mem _ (List.mem_append_left _ (List.mem_of_getElem? (i := 0) rfl)))) (fun _ h9 => h9) rfl (by decide +kernel) rfl rfl (Nat.le_of_ble_eq_true rfl) dX8_isThrown_10 (fun H locs hP hD hS => ?_)
  have hP : va_P D vwCl [(h1, .inr (10, [x2, x3, x4, x5, x6, x7, x8, x9, x10, x11, x12, x13, x14, x15, x16, x17, x18, .int 0]))] H := hP
  have hD : va_D A [(h1, .inr (10, [x2, x3, x4, x5, x6, x7, x8, x9, x10, x11, x12, x13, x14, x15, x16, x17, x18, .int 0]))] := hD
  refine lv_iload_n hx hb dX8_isThrown_13 rfl (lv_at hl 1 rfl) ?_
  refine W.widen (k := 0) (n := 0) (Nat.le_of_ble_eq_true rfl) (Nat.le_of_ble_eq_true rfl) ?_
  have hP9 := hP.sub (ws' := [(h1, .inr (10, [x2, x3, x4, x5, x6, x7, x8, x9, x10, x11, x12, x13, x14, x15, x16, x17, x18, .int 0]))]) [0] rfl
  have hD9 := hD.sub (ws' := [(h1, .inr (10, [x2, x3, x4, x5, x6, x7, x8, x9, x10, x11, x12, x13, x14, x15, x16, x17, x18, .int 0]))]) [0] (by decide) rfl
  exact W.zret (v := 0) hx hb hr rfl (fun t ht hW => ⟨⟨0, (), rfl, ⟨rfl, trivial⟩, ⟨by rw [ht]; exact hP9, hD9⟩⟩, hS.F ht⟩) hS.2.2 dX8_isThrown_14
set_option maxHeartbeats 4000000 in
set_option maxRecDepth 100000 in
theorem k_X8_isThrown_2 (l : Launch) (D : va_G) (cy : Nat → ClassId) (h1 : Nat) (x2 : Value) (x3 : Value) (x4 : Value) (x5 : Value) (x6 : Value) (x7 : Value) (x8 : Value) (x9 : Value) (x10 : Value) (x11 : Value) (x12 : Value) (x13 : Value) (x14 : Value) (x15 : Value) (x16 : Value) (x17 : Value) (x18 : Value) (x19 : Value) (sz : Nat) : Met l yX8_isThrown wsX8_isThrown ({ frames := 0, cells := 0, slots := 0, locals := 0 }) (kW D cy [.ref h1, .int 0, .int 2] [(h1, .inr (10, [x2, x3, x4, x5, x6, x7, x8, x9, x10, x11, x12, x13, x14, x15, x16, x17, x18, x19]))] sz) (va_Qi (fun (r : Int32) (_ : Unit) => r = 0 ∧ True) (fun (_ : Unit) (t : State) => va_P D vwCl [(h1, .inr (10, [x2, x3, x4, x5, x6, x7, x8, x9, x10, x11, x12, x13, x14, x15, x16, x17, x18, .int 0]))] t.heap ∧ va_D (va_A [(h1, .inr (10, [x2, x3, x4, x5, x6, x7, x8, x9, x10, x11, x12, x13, x14, x15, x16, x17, x18, x19]))] sz) [(h1, .inr (10, [x2, x3, x4, x5, x6, x7, x8, x9, x10, x11, x12, x13, x14, x15, x16, x17, x18, .int 0]))]) (va_A [(h1, .inr (10, [x2, x3, x4, x5, x6, x7, x8, x9, x10, x11, x12, x13, x14, x15, x16, x17, x18, x19]))] sz)) 0 0 (va_A [(h1, .inr (10, [x2, x3, x4, x5, x6, x7, x8, x9, x10, x11, x12, x13, x14, x15, x16, x17, x18, x19]))] sz) := by
  refine Met.ofW (cc := cX8_isThrown) (maxL := 3) (ret := (some .boolean)) (by decide) rfl ?_
  intro p e s m args below meth c s₁ B hml hv
  obtain ⟨rfl, hsz, hP, hK, hD0⟩ := hv
  have hx := B.exec
  have hb := B.bytes
  have hr := B.returns
  have hts := atoms_spec (ws := wsX8_isThrown) B.pre
  have hown : s.vm.findClass RX8 = some m.cls := findClass_of_methodNamed B.named
  have hlocks := B.notSynchronized
  subst hsz
  have hD := hD0.self (sz := s.heap.size)
  generalize hAe : va_A [(h1, .inr (10, [x2, x3, x4, x5, x6, x7, x8, x9, x10, x11, x12, x13, x14, x15, x16, x17, x18, x19]))] s.heap.size = A at hD ⊢
  have hA : ∀ q : Nat, s.heap.size ≤ q → A q := fun q h => by rw [← hAe]; exact Or.inr h
  have hS : va_S A s.heap s.heap [] := va_S.rf
  have hP : va_P D vwCl [(h1, .inr (10, [x2, x3, x4, x5, x6, x7, x8, x9, x10, x11, x12, x13, x14, x15, x16, x17, x18, x19]))] s.heap := hP
  have hl := lv_entry ([.ref h1, .int 0, .int 2]) (n := 3) (Nat.le_of_ble_eq_true rfl)
  rw [lg_entry_eq]
  generalize (lg_sl ([.ref h1, .int 0, .int 2]) ++ List.replicate (3 - (lg_sl ([.ref h1, .int 0, .int 2])).length) Slot.unset).toArray = ls at hl ⊢
  have hl : lv_has ls 3 [(0, .ref h1), (1, .int 0), (2, .int 2)] := hl
  refine lv_aload_n hx hb dX8_isThrown_0 rfl (lv_at hl 0 rfl) ?_
  refine lv_iload_n hx hb dX8_isThrown_1 rfl (lv_at hl 1 rfl) ?_
  refine lv_if_eq (tgt := 9) hx hb dX8_isThrown_2 (by decide) (fun _ => ?_) (fun h => absurd (by decide) h)
  refine lv_iconst (v := 0) hx hb dX8_isThrown_9 (by decide) ?_
  refine va_put (D := D) (ci := 10) (v := .int 0) (ty := .int) (C := RX8) (T := TX8) (N := 18) hx hb hts (fun _ h => (List.mem_cons_of_mem _ (List.mem_append_right _ h))) tyX8 tyX8_ok nmX8 hown hK hP hD hS 0 rfl rfl 17 (by decide) (hts (.fieldLink RX8 59 "SelfishJunctionModel" "thrown" "I") (List.mem_cons_of_mem _ (List.mem_append_left _ (List.mem_of_getElem? (i := 0) rfl)))) (fun _ h9 => h9) rfl (by decide +kernel) rfl rfl (Nat.le_of_ble_eq_true rfl) dX8_isThrown_10 (fun H locs hP hD hS => ?_)
  have hP : va_P D vwCl [(h1, .inr (10, [x2, x3, x4, x5, x6, x7, x8, x9, x10, x11, x12, x13, x14, x15, x16, x17, x18, .int 0]))] H := hP
  have hD : va_D A [(h1, .inr (10, [x2, x3, x4, x5, x6, x7, x8, x9, x10, x11, x12, x13, x14, x15, x16, x17, x18, .int 0]))] := hD
  refine lv_iload_n hx hb dX8_isThrown_13 rfl (lv_at hl 1 rfl) ?_
  refine W.widen (k := 0) (n := 0) (Nat.le_of_ble_eq_true rfl) (Nat.le_of_ble_eq_true rfl) ?_
  have hP9 := hP.sub (ws' := [(h1, .inr (10, [x2, x3, x4, x5, x6, x7, x8, x9, x10, x11, x12, x13, x14, x15, x16, x17, x18, .int 0]))]) [0] rfl
  have hD9 := hD.sub (ws' := [(h1, .inr (10, [x2, x3, x4, x5, x6, x7, x8, x9, x10, x11, x12, x13, x14, x15, x16, x17, x18, .int 0]))]) [0] (by decide) rfl
  exact W.zret (v := 0) hx hb hr rfl (fun t ht hW => ⟨⟨0, (), rfl, ⟨rfl, trivial⟩, ⟨by rw [ht]; exact hP9, hD9⟩⟩, hS.F ht⟩) hS.2.2 dX8_isThrown_14
theorem dX8_adds_0 : decode cX8_adds 0 = .ok (.aload_n 0, 1) := by decide +kernel
theorem dX8_adds_1 : decode cX8_adds 1 = .ok (.getfield 9, 3) := by decide +kernel
theorem dX8_adds_4 : decode cX8_adds 4 = .ok (.aload_n 0, 1) := by decide +kernel
theorem dX8_adds_5 : decode cX8_adds 5 = .ok (.getfield 62, 3) := by decide +kernel
theorem dX8_adds_8 : decode cX8_adds 8 = .ok (.iload_n 1, 1) := by decide +kernel
theorem dX8_adds_9 : decode cX8_adds 9 = .ok (.castore, 1) := by decide +kernel
theorem dX8_adds_10 : decode cX8_adds 10 = .ok (.aload_n 0, 1) := by decide +kernel
theorem dX8_adds_11 : decode cX8_adds 11 = .ok (.getfield 13, 3) := by decide +kernel
theorem dX8_adds_14 : decode cX8_adds 14 = .ok (.aload_n 0, 1) := by decide +kernel
theorem dX8_adds_15 : decode cX8_adds 15 = .ok (.getfield 62, 3) := by decide +kernel
theorem dX8_adds_18 : decode cX8_adds 18 = .ok (.iload_n 2, 1) := by decide +kernel
theorem dX8_adds_19 : decode cX8_adds 19 = .ok (.iastore, 1) := by decide +kernel
theorem dX8_adds_20 : decode cX8_adds 20 = .ok (.aload_n 0, 1) := by decide +kernel
theorem dX8_adds_21 : decode cX8_adds 21 = .ok (.getfield 17, 3) := by decide +kernel
theorem dX8_adds_24 : decode cX8_adds 24 = .ok (.aload_n 0, 1) := by decide +kernel
theorem dX8_adds_25 : decode cX8_adds 25 = .ok (.getfield 62, 3) := by decide +kernel
theorem dX8_adds_28 : decode cX8_adds 28 = .ok (.iload_n 3, 1) := by decide +kernel
theorem dX8_adds_29 : decode cX8_adds 29 = .ok (.iastore, 1) := by decide +kernel
theorem dX8_adds_30 : decode cX8_adds 30 = .ok (.aload_n 0, 1) := by decide +kernel
theorem dX8_adds_31 : decode cX8_adds 31 = .ok (.getfield 20, 3) := by decide +kernel
theorem dX8_adds_34 : decode cX8_adds 34 = .ok (.aload_n 0, 1) := by decide +kernel
theorem dX8_adds_35 : decode cX8_adds 35 = .ok (.getfield 62, 3) := by decide +kernel
theorem dX8_adds_38 : decode cX8_adds 38 = .ok (.iload 4, 2) := by decide +kernel
theorem dX8_adds_40 : decode cX8_adds 40 = .ok (.iastore, 1) := by decide +kernel
theorem dX8_adds_41 : decode cX8_adds 41 = .ok (.aload_n 0, 1) := by decide +kernel
theorem dX8_adds_42 : decode cX8_adds 42 = .ok (.getfield 23, 3) := by decide +kernel
theorem dX8_adds_45 : decode cX8_adds 45 = .ok (.aload_n 0, 1) := by decide +kernel
theorem dX8_adds_46 : decode cX8_adds 46 = .ok (.getfield 62, 3) := by decide +kernel
theorem dX8_adds_49 : decode cX8_adds 49 = .ok (.iload 5, 2) := by decide +kernel
theorem dX8_adds_51 : decode cX8_adds 51 = .ok (.iastore, 1) := by decide +kernel
theorem dX8_adds_52 : decode cX8_adds 52 = .ok (.aload_n 0, 1) := by decide +kernel
theorem dX8_adds_53 : decode cX8_adds 53 = .ok (.dup, 1) := by decide +kernel
theorem dX8_adds_54 : decode cX8_adds 54 = .ok (.getfield 62, 3) := by decide +kernel
theorem dX8_adds_57 : decode cX8_adds 57 = .ok (.iconst 1, 1) := by decide +kernel
theorem dX8_adds_58 : decode cX8_adds 58 = .ok (.iadd, 1) := by decide +kernel
theorem dX8_adds_59 : decode cX8_adds 59 = .ok (.putfield 62, 3) := by decide +kernel
theorem dX8_adds_62 : decode cX8_adds 62 = .ok (.aload_n 0, 1) := by decide +kernel
theorem dX8_adds_63 : decode cX8_adds 63 = .ok (.getfield 62, 3) := by decide +kernel
theorem dX8_adds_66 : decode cX8_adds 66 = .ok (.iconst 1, 1) := by decide +kernel
theorem dX8_adds_67 : decode cX8_adds 67 = .ok (.isub, 1) := by decide +kernel
theorem dX8_adds_68 : decode cX8_adds 68 = .ok (.ireturn, 1) := by decide +kernel
set_option maxHeartbeats 4000000 in
set_option maxRecDepth 100000 in
theorem k_X8_adds (l : Launch) (D : va_G) (cy : Nat → ClassId) (h1 : Nat) (p0 : Int32) (p1 : Int32) (p2 : Int32) (h2 : Nat) (h3 : Nat) (h4 : Nat) (h5 : Nat) (h6 : Nat) (x7 : Value) (x8 : Value) (x9 : Value) (x10 : Value) (x11 : Value) (x12 : Value) (x13 : Value) (x14 : Value) (x15 : Value) (x16 : Value) (x17 : Value) (x18 : Value) (g19 : Nat → Int32) (g20 : Nat → Int32) (g21 : Nat → Int32) (g22 : Nat → Int32) (g23 : Nat → Int32) (hpre : ((0 : Int) ≤ p0.toInt ∧ p0.toInt ≤ (65535 : Int))) (sz : Nat) : Met l yX8_adds wsX8_adds ({ frames := 0, cells := 0, slots := 0, locals := 0 }) (kW D cy [.ref h1, .int p0, .int p1, .int p2, .int (-1), .int (-1)] [(h1, .inr (10, [.ref h2, .ref h3, .ref h4, .ref h5, .ref h6, x7, x8, x9, x10, x11, x12, x13, x14, x15, .int 0, x16, x17, x18])), (h2, .inl (cy 0, 8, .inl g19)), (h3, .inl (cy 1, 8, .inl g20)), (h4, .inl (cy 1, 8, .inl g21)), (h5, .inl (cy 1, 8, .inl g22)), (h6, .inl (cy 1, 8, .inl g23))] sz) (va_Qi (fun (r : Int32) (_ : Unit) => r = 0 ∧ True) (fun (_ : Unit) (t : State) => va_P D vwCl [(h1, .inr (10, [.ref h2, .ref h3, .ref h4, .ref h5, .ref h6, x7, x8, x9, x10, x11, x12, x13, x14, x15, .int 1, x16, x17, x18])), (h2, .inl (cy 0, 8, .inl (upd g19 0 p0))), (h3, .inl (cy 1, 8, .inl (upd g20 0 p1))), (h4, .inl (cy 1, 8, .inl (upd g21 0 p2))), (h5, .inl (cy 1, 8, .inl (upd g22 0 (-1)))), (h6, .inl (cy 1, 8, .inl (upd g23 0 (-1))))] t.heap ∧ va_D (va_A [(h1, .inr (10, [.ref h2, .ref h3, .ref h4, .ref h5, .ref h6, x7, x8, x9, x10, x11, x12, x13, x14, x15, .int 0, x16, x17, x18])), (h2, .inl (cy 0, 8, .inl g19)), (h3, .inl (cy 1, 8, .inl g20)), (h4, .inl (cy 1, 8, .inl g21)), (h5, .inl (cy 1, 8, .inl g22)), (h6, .inl (cy 1, 8, .inl g23))] sz) [(h1, .inr (10, [.ref h2, .ref h3, .ref h4, .ref h5, .ref h6, x7, x8, x9, x10, x11, x12, x13, x14, x15, .int 1, x16, x17, x18])), (h2, .inl (cy 0, 8, .inl (upd g19 0 p0))), (h3, .inl (cy 1, 8, .inl (upd g20 0 p1))), (h4, .inl (cy 1, 8, .inl (upd g21 0 p2))), (h5, .inl (cy 1, 8, .inl (upd g22 0 (-1)))), (h6, .inl (cy 1, 8, .inl (upd g23 0 (-1))))]) (va_A [(h1, .inr (10, [.ref h2, .ref h3, .ref h4, .ref h5, .ref h6, x7, x8, x9, x10, x11, x12, x13, x14, x15, .int 0, x16, x17, x18])), (h2, .inl (cy 0, 8, .inl g19)), (h3, .inl (cy 1, 8, .inl g20)), (h4, .inl (cy 1, 8, .inl g21)), (h5, .inl (cy 1, 8, .inl g22)), (h6, .inl (cy 1, 8, .inl g23))] sz)) 0 0 (va_A [(h1, .inr (10, [.ref h2, .ref h3, .ref h4, .ref h5, .ref h6, x7, x8, x9, x10, x11, x12, x13, x14, x15, .int 0, x16, x17, x18])), (h2, .inl (cy 0, 8, .inl g19)), (h3, .inl (cy 1, 8, .inl g20)), (h4, .inl (cy 1, 8, .inl g21)), (h5, .inl (cy 1, 8, .inl g22)), (h6, .inl (cy 1, 8, .inl g23))] sz) := by
  refine Met.ofW (cc := cX8_adds) (maxL := 6) (ret := (some .int)) (by decide) rfl ?_
  intro p e s m args below meth c s₁ B hml hv
  obtain ⟨rfl, hsz, hP, hK, hD0⟩ := hv
  have hx := B.exec
  have hb := B.bytes
  have hr := B.returns
  have hts := atoms_spec (ws := wsX8_adds) B.pre
  have hown : s.vm.findClass RX8 = some m.cls := findClass_of_methodNamed B.named
  have hlocks := B.notSynchronized
  subst hsz
  have hD := hD0.self (sz := s.heap.size)
  generalize hAe : va_A [(h1, .inr (10, [.ref h2, .ref h3, .ref h4, .ref h5, .ref h6, x7, x8, x9, x10, x11, x12, x13, x14, x15, .int 0, x16, x17, x18])), (h2, .inl (cy 0, 8, .inl g19)), (h3, .inl (cy 1, 8, .inl g20)), (h4, .inl (cy 1, 8, .inl g21)), (h5, .inl (cy 1, 8, .inl g22)), (h6, .inl (cy 1, 8, .inl g23))] s.heap.size = A at hD ⊢
  have hA : ∀ q : Nat, s.heap.size ≤ q → A q := fun q h => by rw [← hAe]; exact Or.inr h
  have hS : va_S A s.heap s.heap [] := va_S.rf
  have hP : va_P D vwCl [(h1, .inr (10, [.ref h2, .ref h3, .ref h4, .ref h5, .ref h6, x7, x8, x9, x10, x11, x12, x13, x14, x15, .int 0, x16, x17, x18])), (h2, .inl (cy 0, 8, .inl g19)), (h3, .inl (cy 1, 8, .inl g20)), (h4, .inl (cy 1, 8, .inl g21)), (h5, .inl (cy 1, 8, .inl g22)), (h6, .inl (cy 1, 8, .inl g23))] s.heap := hP
  have hl := lv_entry ([.ref h1, .int p0, .int p1, .int p2, .int (-1), .int (-1)]) (n := 6) (Nat.le_of_ble_eq_true rfl)
  rw [lg_entry_eq]
  generalize (lg_sl ([.ref h1, .int p0, .int p1, .int p2, .int (-1), .int (-1)]) ++ List.replicate (6 - (lg_sl ([.ref h1, .int p0, .int p1, .int p2, .int (-1), .int (-1)])).length) Slot.unset).toArray = ls at hl ⊢
  have hl : lv_has ls 6 [(0, .ref h1), (1, .int p0), (2, .int p1), (3, .int p2), (4, .int (-1)), (5, .int (-1))] := hl
  refine lv_aload_n hx hb dX8_adds_0 rfl (lv_at hl 0 rfl) ?_
  refine va_get (D := D) (ci := 10) (v := .ref h2) (C := RX8) (T := TX8) (N := 18) hx hb hts (fun _ h => (List.mem_cons_of_mem _ (List.mem_append_left _ (List.mem_append_right _ h)))) hown hK hP 0 rfl rfl 0 (by decide) (hts (.fieldLink RX8 9 "SelfishJunctionModel" "kinds" "[C") (List.mem_cons_of_mem _ (List.mem_append_left _ (List.mem_append_left _ (List.mem_of_getElem? (i := 0) rfl))))) (fun _ h9 => h9) rfl dX8_adds_1 ?_
  refine lv_aload_n hx hb dX8_adds_4 rfl (lv_at hl 0 rfl) ?_
  refine va_get (D := D) (ci := 10) (v := .int 0) (C := RX8) (T := TX8) (N := 18) hx hb hts (fun _ h => (List.mem_cons_of_mem _ (List.mem_append_left _ (List.mem_append_right _ h)))) hown hK hP 0 rfl rfl 14 (by decide) (hts (.fieldLink RX8 62 "SelfishJunctionModel" "resources" "I") (List.mem_cons_of_mem _ (List.mem_append_left _ (List.mem_append_left _ (List.mem_of_getElem? (i := 1) rfl))))) (fun _ h9 => h9) rfl dX8_adds_5 ?_
  refine lv_iload_n hx hb dX8_adds_8 rfl (lv_at hl 1 rfl) ?_
  refine va_cast hx hb hK hP hD hS 1 0 rfl rfl (kx_in 0 8 rfl ⟨(Nat.le_of_ble_eq_true rfl), (Nat.le_of_ble_eq_true rfl)⟩ (Nat.le_of_ble_eq_true rfl)) dX8_adds_9 (fun H locs hP hD hS => ?_)
  rw [kx_nar p0 (by omega) (by omega)] at hP hD
  have hP : va_P D vwCl [(h1, .inr (10, [.ref h2, .ref h3, .ref h4, .ref h5, .ref h6, x7, x8, x9, x10, x11, x12, x13, x14, x15, .int 0, x16, x17, x18])), (h2, .inl (cy 0, 8, .inl (upd g19 0 p0))), (h3, .inl (cy 1, 8, .inl g20)), (h4, .inl (cy 1, 8, .inl g21)), (h5, .inl (cy 1, 8, .inl g22)), (h6, .inl (cy 1, 8, .inl g23))] H := hP
  have hD : va_D A [(h1, .inr (10, [.ref h2, .ref h3, .ref h4, .ref h5, .ref h6, x7, x8, x9, x10, x11, x12, x13, x14, x15, .int 0, x16, x17, x18])), (h2, .inl (cy 0, 8, .inl (upd g19 0 p0))), (h3, .inl (cy 1, 8, .inl g20)), (h4, .inl (cy 1, 8, .inl g21)), (h5, .inl (cy 1, 8, .inl g22)), (h6, .inl (cy 1, 8, .inl g23))] := hD
  refine lv_aload_n hx hb dX8_adds_10 rfl (lv_at hl 0 rfl) ?_
  refine va_get (D := D) (ci := 10) (v := .ref h3) (C := RX8) (T := TX8) (N := 18) hx hb hts (fun _ h => (List.mem_cons_of_mem _ (List.mem_append_left _ (List.mem_append_right _ h)))) hown hK hP 0 rfl rfl 1 (by decide) (hts (.fieldLink RX8 13 "SelfishJunctionModel" "as" "[I") (List.mem_cons_of_mem _ (List.mem_append_left _ (List.mem_append_left _ (List.mem_of_getElem? (i := 2) rfl))))) (fun _ h9 => h9) rfl dX8_adds_11 ?_
  refine lv_aload_n hx hb dX8_adds_14 rfl (lv_at hl 0 rfl) ?_
  refine va_get (D := D) (ci := 10) (v := .int 0) (C := RX8) (T := TX8) (N := 18) hx hb hts (fun _ h => (List.mem_cons_of_mem _ (List.mem_append_left _ (List.mem_append_right _ h)))) hown hK hP 0 rfl rfl 14 (by decide) (hts (.fieldLink RX8 62 "SelfishJunctionModel" "resources" "I") (List.mem_cons_of_mem _ (List.mem_append_left _ (List.mem_append_left _ (List.mem_of_getElem? (i := 1) rfl))))) (fun _ h9 => h9) rfl dX8_adds_15 ?_
  refine lv_iload_n hx hb dX8_adds_18 rfl (lv_at hl 2 rfl) ?_
  refine va_iast hx hb hK hP hD hS 2 1 rfl rfl (kx_in 0 8 rfl ⟨(Nat.le_of_ble_eq_true rfl), (Nat.le_of_ble_eq_true rfl)⟩ (Nat.le_of_ble_eq_true rfl)) dX8_adds_19 (fun H locs hP hD hS => ?_)
  have hP : va_P D vwCl [(h1, .inr (10, [.ref h2, .ref h3, .ref h4, .ref h5, .ref h6, x7, x8, x9, x10, x11, x12, x13, x14, x15, .int 0, x16, x17, x18])), (h2, .inl (cy 0, 8, .inl (upd g19 0 p0))), (h3, .inl (cy 1, 8, .inl (upd g20 0 p1))), (h4, .inl (cy 1, 8, .inl g21)), (h5, .inl (cy 1, 8, .inl g22)), (h6, .inl (cy 1, 8, .inl g23))] H := hP
  have hD : va_D A [(h1, .inr (10, [.ref h2, .ref h3, .ref h4, .ref h5, .ref h6, x7, x8, x9, x10, x11, x12, x13, x14, x15, .int 0, x16, x17, x18])), (h2, .inl (cy 0, 8, .inl (upd g19 0 p0))), (h3, .inl (cy 1, 8, .inl (upd g20 0 p1))), (h4, .inl (cy 1, 8, .inl g21)), (h5, .inl (cy 1, 8, .inl g22)), (h6, .inl (cy 1, 8, .inl g23))] := hD
  refine lv_aload_n hx hb dX8_adds_20 rfl (lv_at hl 0 rfl) ?_
  refine va_get (D := D) (ci := 10) (v := .ref h4) (C := RX8) (T := TX8) (N := 18) hx hb hts (fun _ h => (List.mem_cons_of_mem _ (List.mem_append_left _ (List.mem_append_right _ h)))) hown hK hP 0 rfl rfl 2 (by decide) (hts (.fieldLink RX8 17 "SelfishJunctionModel" "bs" "[I") (List.mem_cons_of_mem _ (List.mem_append_left _ (List.mem_append_left _ (List.mem_of_getElem? (i := 3) rfl))))) (fun _ h9 => h9) rfl dX8_adds_21 ?_
  refine lv_aload_n hx hb dX8_adds_24 rfl (lv_at hl 0 rfl) ?_
  refine va_get (D := D) (ci := 10) (v := .int 0) (C := RX8) (T := TX8) (N := 18) hx hb hts (fun _ h => (List.mem_cons_of_mem _ (List.mem_append_left _ (List.mem_append_right _ h)))) hown hK hP 0 rfl rfl 14 (by decide) (hts (.fieldLink RX8 62 "SelfishJunctionModel" "resources" "I") (List.mem_cons_of_mem _ (List.mem_append_left _ (List.mem_append_left _ (List.mem_of_getElem? (i := 1) rfl))))) (fun _ h9 => h9) rfl dX8_adds_25 ?_
  refine lv_iload_n hx hb dX8_adds_28 rfl (lv_at hl 3 rfl) ?_
  refine va_iast hx hb hK hP hD hS 3 1 rfl rfl (kx_in 0 8 rfl ⟨(Nat.le_of_ble_eq_true rfl), (Nat.le_of_ble_eq_true rfl)⟩ (Nat.le_of_ble_eq_true rfl)) dX8_adds_29 (fun H locs hP hD hS => ?_)
  have hP : va_P D vwCl [(h1, .inr (10, [.ref h2, .ref h3, .ref h4, .ref h5, .ref h6, x7, x8, x9, x10, x11, x12, x13, x14, x15, .int 0, x16, x17, x18])), (h2, .inl (cy 0, 8, .inl (upd g19 0 p0))), (h3, .inl (cy 1, 8, .inl (upd g20 0 p1))), (h4, .inl (cy 1, 8, .inl (upd g21 0 p2))), (h5, .inl (cy 1, 8, .inl g22)), (h6, .inl (cy 1, 8, .inl g23))] H := hP
  have hD : va_D A [(h1, .inr (10, [.ref h2, .ref h3, .ref h4, .ref h5, .ref h6, x7, x8, x9, x10, x11, x12, x13, x14, x15, .int 0, x16, x17, x18])), (h2, .inl (cy 0, 8, .inl (upd g19 0 p0))), (h3, .inl (cy 1, 8, .inl (upd g20 0 p1))), (h4, .inl (cy 1, 8, .inl (upd g21 0 p2))), (h5, .inl (cy 1, 8, .inl g22)), (h6, .inl (cy 1, 8, .inl g23))] := hD
  refine lv_aload_n hx hb dX8_adds_30 rfl (lv_at hl 0 rfl) ?_
  refine va_get (D := D) (ci := 10) (v := .ref h5) (C := RX8) (T := TX8) (N := 18) hx hb hts (fun _ h => (List.mem_cons_of_mem _ (List.mem_append_left _ (List.mem_append_right _ h)))) hown hK hP 0 rfl rfl 3 (by decide) (hts (.fieldLink RX8 20 "SelfishJunctionModel" "froms" "[I") (List.mem_cons_of_mem _ (List.mem_append_left _ (List.mem_append_left _ (List.mem_of_getElem? (i := 4) rfl))))) (fun _ h9 => h9) rfl dX8_adds_31 ?_
  refine lv_aload_n hx hb dX8_adds_34 rfl (lv_at hl 0 rfl) ?_
  refine va_get (D := D) (ci := 10) (v := .int 0) (C := RX8) (T := TX8) (N := 18) hx hb hts (fun _ h => (List.mem_cons_of_mem _ (List.mem_append_left _ (List.mem_append_right _ h)))) hown hK hP 0 rfl rfl 14 (by decide) (hts (.fieldLink RX8 62 "SelfishJunctionModel" "resources" "I") (List.mem_cons_of_mem _ (List.mem_append_left _ (List.mem_append_left _ (List.mem_of_getElem? (i := 1) rfl))))) (fun _ h9 => h9) rfl dX8_adds_35 ?_
  refine lv_iload hx hb dX8_adds_38 (lv_at hl 4 rfl) ?_
  refine va_iast hx hb hK hP hD hS 4 1 rfl rfl (kx_in 0 8 rfl ⟨(Nat.le_of_ble_eq_true rfl), (Nat.le_of_ble_eq_true rfl)⟩ (Nat.le_of_ble_eq_true rfl)) dX8_adds_40 (fun H locs hP hD hS => ?_)
  have hP : va_P D vwCl [(h1, .inr (10, [.ref h2, .ref h3, .ref h4, .ref h5, .ref h6, x7, x8, x9, x10, x11, x12, x13, x14, x15, .int 0, x16, x17, x18])), (h2, .inl (cy 0, 8, .inl (upd g19 0 p0))), (h3, .inl (cy 1, 8, .inl (upd g20 0 p1))), (h4, .inl (cy 1, 8, .inl (upd g21 0 p2))), (h5, .inl (cy 1, 8, .inl (upd g22 0 (-1)))), (h6, .inl (cy 1, 8, .inl g23))] H := hP
  have hD : va_D A [(h1, .inr (10, [.ref h2, .ref h3, .ref h4, .ref h5, .ref h6, x7, x8, x9, x10, x11, x12, x13, x14, x15, .int 0, x16, x17, x18])), (h2, .inl (cy 0, 8, .inl (upd g19 0 p0))), (h3, .inl (cy 1, 8, .inl (upd g20 0 p1))), (h4, .inl (cy 1, 8, .inl (upd g21 0 p2))), (h5, .inl (cy 1, 8, .inl (upd g22 0 (-1)))), (h6, .inl (cy 1, 8, .inl g23))] := hD
  refine lv_aload_n hx hb dX8_adds_41 rfl (lv_at hl 0 rfl) ?_
  refine va_get (D := D) (ci := 10) (v := .ref h6) (C := RX8) (T := TX8) (N := 18) hx hb hts (fun _ h => (List.mem_cons_of_mem _ (List.mem_append_left _ (List.mem_append_right _ h)))) hown hK hP 0 rfl rfl 4 (by decide) (hts (.fieldLink RX8 23 "SelfishJunctionModel" "tos" "[I") (List.mem_cons_of_mem _ (List.mem_append_left _ (List.mem_append_left _ (List.mem_of_getElem? (i := 5) rfl))))) (fun _ h9 => h9) rfl dX8_adds_42 ?_
  refine lv_aload_n hx hb dX8_adds_45 rfl (lv_at hl 0 rfl) ?_
  refine va_get (D := D) (ci := 10) (v := .int 0) (C := RX8) (T := TX8) (N := 18) hx hb hts (fun _ h => (List.mem_cons_of_mem _ (List.mem_append_left _ (List.mem_append_right _ h)))) hown hK hP 0 rfl rfl 14 (by decide) (hts (.fieldLink RX8 62 "SelfishJunctionModel" "resources" "I") (List.mem_cons_of_mem _ (List.mem_append_left _ (List.mem_append_left _ (List.mem_of_getElem? (i := 1) rfl))))) (fun _ h9 => h9) rfl dX8_adds_46 ?_
  refine lv_iload hx hb dX8_adds_49 (lv_at hl 5 rfl) ?_
  refine va_iast hx hb hK hP hD hS 5 1 rfl rfl (kx_in 0 8 rfl ⟨(Nat.le_of_ble_eq_true rfl), (Nat.le_of_ble_eq_true rfl)⟩ (Nat.le_of_ble_eq_true rfl)) dX8_adds_51 (fun H locs hP hD hS => ?_)
  have hP : va_P D vwCl [(h1, .inr (10, [.ref h2, .ref h3, .ref h4, .ref h5, .ref h6, x7, x8, x9, x10, x11, x12, x13, x14, x15, .int 0, x16, x17, x18])), (h2, .inl (cy 0, 8, .inl (upd g19 0 p0))), (h3, .inl (cy 1, 8, .inl (upd g20 0 p1))), (h4, .inl (cy 1, 8, .inl (upd g21 0 p2))), (h5, .inl (cy 1, 8, .inl (upd g22 0 (-1)))), (h6, .inl (cy 1, 8, .inl (upd g23 0 (-1))))] H := hP
  have hD : va_D A [(h1, .inr (10, [.ref h2, .ref h3, .ref h4, .ref h5, .ref h6, x7, x8, x9, x10, x11, x12, x13, x14, x15, .int 0, x16, x17, x18])), (h2, .inl (cy 0, 8, .inl (upd g19 0 p0))), (h3, .inl (cy 1, 8, .inl (upd g20 0 p1))), (h4, .inl (cy 1, 8, .inl (upd g21 0 p2))), (h5, .inl (cy 1, 8, .inl (upd g22 0 (-1)))), (h6, .inl (cy 1, 8, .inl (upd g23 0 (-1))))] := hD
  refine lv_aload_n hx hb dX8_adds_52 rfl (lv_at hl 0 rfl) ?_
  refine lv_dup hx hb dX8_adds_53 rfl ?_
  refine va_get (D := D) (ci := 10) (v := .int 0) (C := RX8) (T := TX8) (N := 18) hx hb hts (fun _ h => (List.mem_cons_of_mem _ (List.mem_append_left _ (List.mem_append_right _ h)))) hown hK hP 0 rfl rfl 14 (by decide) (hts (.fieldLink RX8 62 "SelfishJunctionModel" "resources" "I") (List.mem_cons_of_mem _ (List.mem_append_left _ (List.mem_append_left _ (List.mem_of_getElem? (i := 1) rfl))))) (fun _ h9 => h9) rfl dX8_adds_54 ?_
  refine lv_iconst (v := 1) hx hb dX8_adds_57 (by decide) ?_
  refine lv_iadd hx hb dX8_adds_58 ?_
  refine lv_topi (fun v_1 ev_1 => ?_)
  obtain rfl : v_1 = 1 := ev_1.trans (by decide)
  refine va_put (D := D) (ci := 10) (v := .int 1) (ty := .int) (C := RX8) (T := TX8) (N := 18) hx hb hts (fun _ h => (List.mem_cons_of_mem _ (List.mem_append_left _ (List.mem_append_right _ h)))) tyX8 tyX8_ok nmX8 hown hK hP hD hS 0 rfl rfl 14 (by decide) (hts (.fieldLink RX8 62 "SelfishJunctionModel" "resources" "I") (List.mem_cons_of_mem _ (List.mem_append_left _ (List.mem_append_left _ (List.mem_of_getElem? (i := 1) rfl))))) (fun _ h9 => h9) rfl (by decide +kernel) rfl rfl (Nat.le_of_ble_eq_true rfl) dX8_adds_59 (fun H locs hP hD hS => ?_)
  have hP : va_P D vwCl [(h1, .inr (10, [.ref h2, .ref h3, .ref h4, .ref h5, .ref h6, x7, x8, x9, x10, x11, x12, x13, x14, x15, .int 1, x16, x17, x18])), (h2, .inl (cy 0, 8, .inl (upd g19 0 p0))), (h3, .inl (cy 1, 8, .inl (upd g20 0 p1))), (h4, .inl (cy 1, 8, .inl (upd g21 0 p2))), (h5, .inl (cy 1, 8, .inl (upd g22 0 (-1)))), (h6, .inl (cy 1, 8, .inl (upd g23 0 (-1))))] H := hP
  have hD : va_D A [(h1, .inr (10, [.ref h2, .ref h3, .ref h4, .ref h5, .ref h6, x7, x8, x9, x10, x11, x12, x13, x14, x15, .int 1, x16, x17, x18])), (h2, .inl (cy 0, 8, .inl (upd g19 0 p0))), (h3, .inl (cy 1, 8, .inl (upd g20 0 p1))), (h4, .inl (cy 1, 8, .inl (upd g21 0 p2))), (h5, .inl (cy 1, 8, .inl (upd g22 0 (-1)))), (h6, .inl (cy 1, 8, .inl (upd g23 0 (-1))))] := hD
  refine lv_aload_n hx hb dX8_adds_62 rfl (lv_at hl 0 rfl) ?_
  refine va_get (D := D) (ci := 10) (v := .int 1) (C := RX8) (T := TX8) (N := 18) hx hb hts (fun _ h => (List.mem_cons_of_mem _ (List.mem_append_left _ (List.mem_append_right _ h)))) hown hK hP 0 rfl rfl 14 (by decide) (hts (.fieldLink RX8 62 "SelfishJunctionModel" "resources" "I") (List.mem_cons_of_mem _ (List.mem_append_left _ (List.mem_append_left _ (List.mem_of_getElem? (i := 1) rfl))))) (fun _ h9 => h9) rfl dX8_adds_63 ?_
  refine lv_iconst (v := 1) hx hb dX8_adds_66 (by decide) ?_
  refine lv_isub hx hb dX8_adds_67 ?_
  refine lv_topi (fun v_2 ev_2 => ?_)
  obtain rfl : v_2 = 0 := ev_2.trans (by decide)
  refine W.widen (k := 0) (n := 0) (Nat.le_of_ble_eq_true rfl) (Nat.le_of_ble_eq_true rfl) ?_
  have hP9 := hP.sub (ws' := [(h1, .inr (10, [.ref h2, .ref h3, .ref h4, .ref h5, .ref h6, x7, x8, x9, x10, x11, x12, x13, x14, x15, .int 1, x16, x17, x18])), (h2, .inl (cy 0, 8, .inl (upd g19 0 p0))), (h3, .inl (cy 1, 8, .inl (upd g20 0 p1))), (h4, .inl (cy 1, 8, .inl (upd g21 0 p2))), (h5, .inl (cy 1, 8, .inl (upd g22 0 (-1)))), (h6, .inl (cy 1, 8, .inl (upd g23 0 (-1))))]) [0, 1, 2, 3, 4, 5] rfl
  have hD9 := hD.sub (ws' := [(h1, .inr (10, [.ref h2, .ref h3, .ref h4, .ref h5, .ref h6, x7, x8, x9, x10, x11, x12, x13, x14, x15, .int 1, x16, x17, x18])), (h2, .inl (cy 0, 8, .inl (upd g19 0 p0))), (h3, .inl (cy 1, 8, .inl (upd g20 0 p1))), (h4, .inl (cy 1, 8, .inl (upd g21 0 p2))), (h5, .inl (cy 1, 8, .inl (upd g22 0 (-1)))), (h6, .inl (cy 1, 8, .inl (upd g23 0 (-1))))]) [0, 1, 2, 3, 4, 5] (by decide) rfl
  exact W.iret (v := 0) hx hb hr (fun t ht hW => ⟨⟨0, (), rfl, ⟨rfl, trivial⟩, ⟨by rw [ht]; exact hP9, hD9⟩⟩, hS.F ht⟩) hS.2.2 dX8_adds_68
