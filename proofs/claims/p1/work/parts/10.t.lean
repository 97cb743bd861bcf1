theorem dX7_checkRange_0 : decode cX7_checkRange 0 = .ok (.iload_n 1, 1) := by decide +kernel
theorem dX7_checkRange_1 : decode cX7_checkRange 1 = .ok (.iload_n 2, 1) := by decide +kernel
theorem dX7_checkRange_2 : decode cX7_checkRange 2 = .ok (.if_icmp .lt 8, 3) := by decide +kernel
theorem dX7_checkRange_10 : decode cX7_checkRange 10 = .ok (.new 95, 3) := by decide +kernel
theorem dX7_checkRange_13 : decode cX7_checkRange 13 = .ok (.dup, 1) := by decide +kernel
theorem dX7_checkRange_14 : decode cX7_checkRange 14 = .ok (.ldc_w 362, 3) := by decide +kernel
theorem dX7_checkRange_17 : decode cX7_checkRange 17 = .ok (.invokespecial 99, 3) := by decide +kernel
theorem dX7_checkRange_20 : decode cX7_checkRange 20 = .ok (.athrow, 1) := by decide +kernel
theorem dX7_checkRange_5 : decode cX7_checkRange 5 = .ok (.iload_n 1, 1) := by decide +kernel
theorem dX7_checkRange_6 : decode cX7_checkRange 6 = .ok (.iload_n 3, 1) := by decide +kernel
theorem dX7_checkRange_7 : decode cX7_checkRange 7 = .ok (.if_icmp .le 14, 3) := by decide +kernel
theorem dX7_checkRange_21 : decode cX7_checkRange 21 = .ok (.return_, 1) := by decide +kernel
theorem dX3_init_0 : decode cX3_init 0 = .ok (.aload_n 0, 1) := by decide +kernel
theorem dX3_init_1 : decode cX3_init 1 = .ok (.invokespecial 3, 3) := by decide +kernel
theorem dX3_init_4 : decode cX3_init 4 = .ok (.aload_n 0, 1) := by decide +kernel
theorem dX3_init_5 : decode cX3_init 5 = .ok (.bipush 6, 2) := by decide +kernel
theorem dX3_init_7 : decode cX3_init 7 = .ok (.newarray .int, 2) := by decide +kernel
theorem dX3_init_9 : decode cX3_init 9 = .ok (.putfield 9, 3) := by decide +kernel
theorem dX3_init_12 : decode cX3_init 12 = .ok (.aload_n 0, 1) := by decide +kernel
theorem dX3_init_13 : decode cX3_init 13 = .ok (.bipush 8, 2) := by decide +kernel
theorem dX3_init_15 : decode cX3_init 15 = .ok (.newarray .int, 2) := by decide +kernel
theorem dX3_init_17 : decode cX3_init 17 = .ok (.putfield 15, 3) := by decide +kernel
theorem dX3_init_20 : decode cX3_init 20 = .ok (.iconst 0, 1) := by decide +kernel
theorem dX3_init_21 : decode cX3_init 21 = .ok (.istore_n 1, 1) := by decide +kernel
theorem dX3_init_22 : decode cX3_init 22 = .ok (.iload_n 1, 1) := by decide +kernel
theorem dX3_init_23 : decode cX3_init 23 = .ok (.bipush 6, 2) := by decide +kernel
theorem dX3_init_25 : decode cX3_init 25 = .ok (.if_icmp .ge 16, 3) := by decide +kernel
theorem dX3_init_28 : decode cX3_init 28 = .ok (.aload_n 0, 1) := by decide +kernel
theorem dX3_init_29 : decode cX3_init 29 = .ok (.getfield 9, 3) := by decide +kernel
theorem dX3_init_32 : decode cX3_init 32 = .ok (.iload_n 1, 1) := by decide +kernel
theorem dX3_init_33 : decode cX3_init 33 = .ok (.iconst (-1), 1) := by decide +kernel
theorem dX3_init_34 : decode cX3_init 34 = .ok (.iastore, 1) := by decide +kernel
theorem dX3_init_35 : decode cX3_init 35 = .ok (.iinc 1 1, 3) := by decide +kernel
theorem dX3_init_38 : decode cX3_init 38 = .ok (.goto (-16), 3) := by decide +kernel
theorem dX3_init_41 : decode cX3_init 41 = .ok (.return_, 1) := by decide +kernel
set_option maxHeartbeats 4000000 in
set_option maxRecDepth 100000 in
theorem k_X7_checkRange (l : Launch) (hl9 : l.stackTraces = false) (D : va_G) (cy : Nat → ClassId) (h1 : Nat) (p0 : Int32) (p1 : Int32) (p2 : Int32) : vx_Met l yX7_checkRange wsX7_checkRange ({ frames := 6, cells := 1, slots := 6, locals := 82 }) (kRX D cy [.ref h1, .int p0, .int p1, .int p2] []) (va_Qv (fun (_ : Unit) => (p1.toInt ≤ p0.toInt ∧ p0.toInt ≤ p2.toInt)) (fun (_ : Unit) (_ : State) => True) (fun _ : Nat => False)) (vx_X (fun _ : Unit => True) (fun (E : String) (_ : Unit) (_ : State) => (E = "java/lang/IllegalArgumentException" ∧ ¬ ((p1.toInt ≤ p0.toInt ∧ p0.toInt ≤ p2.toInt)))) (fun _ : Nat => False)) 1 6 (fun _ : Nat => False) := by
  refine vx_ofW (cc := cX7_checkRange) (maxL := 4) (ret := none) (by decide) rfl ?_
  intro p e s m args below meth c s₁ B hml ht9 hv
  obtain ⟨rfl, hP, hK, hE⟩ := hv
  have hx := B.exec
  have hb := B.bytes
  have hr := B.returns
  have hts := atoms_spec (ws := wsX7_checkRange) B.pre
  have hown : s.vm.findClass RX7 = some m.cls := findClass_of_methodNamed B.named
  have hlocks := B.notSynchronized
  have hS : va_S (fun _ : Nat => False) s.heap s.heap [] := va_S.rf
  have hP : va_P D vwCl [] s.heap := hP
  have hl := lv_entry ([.ref h1, .int p0, .int p1, .int p2]) (n := 4) (Nat.le_of_ble_eq_true rfl)
  rw [lg_entry_eq]
  generalize (lg_sl ([.ref h1, .int p0, .int p1, .int p2]) ++ List.replicate (4 - (lg_sl ([.ref h1, .int p0, .int p1, .int p2])).length) Slot.unset).toArray = ls at hl ⊢
  have hl : lv_has ls 4 [(0, .ref h1), (1, .int p0), (2, .int p1), (3, .int p2)] := hl
  refine lv_iload_n hx hb dX7_checkRange_0 rfl (lv_at hl 1 rfl) ?_
  refine lv_iload_n hx hb dX7_checkRange_1 rfl (lv_at hl 2 rfl) ?_
  refine lv_icmp_lt (tgt := 10) hx hb dX7_checkRange_2 (by decide) (fun c_1 => ?_) (fun c_1 => ?_)
  · have f_2 : p0.toInt < p1.toInt := kx_lt c_1
    obtain ⟨sa9, hsa9⟩ := hE.2.1 (362, "a number is out of range") (by decide +kernel)
    exact vx_throwSW (own := RX7) (cls := "java/lang/IllegalArgumentException") (text := "a number is out of range") (names := ["java/lang/RuntimeException", "java/lang/Exception"]) (A := (fun _ : Nat => False)) hx hb hl9 hown (by decide +kernel) (by decide +kernel) (hts (.classLink RX7 95 "java/lang/IllegalArgumentException") (List.mem_cons_of_mem _ (List.mem_append_left _ (List.mem_of_getElem? (i := 0) rfl)))) (hts (.initialized "java/lang/IllegalArgumentException") (List.mem_cons_of_mem _ (List.mem_append_left _ (List.mem_of_getElem? (i := 1) rfl)))) hsa9 (ex_hat hE (fun w h => hts w (List.mem_cons_of_mem _ (List.mem_append_right _ h))) (by decide +kernel) (by decide +kernel)) (by decide +kernel) hE.1.1 hE.1.2 hS (by rw [hml]; exact hl.1) dX7_checkRange_10 dX7_checkRange_13 dX7_checkRange_14 dX7_checkRange_17 dX7_checkRange_20 (fun x hx => (ht9 x hx).elim) (Nat.le_of_ble_eq_true rfl) (Nat.le_of_ble_eq_true rfl) (Nat.le_of_ble_eq_true rfl) (Nat.le_of_ble_eq_true rfl) hlocks (fun t hal hz hk => ⟨(), trivial, (⟨rfl, (by omega)⟩), kx_thr hS hz hk⟩) hS.2.2 (Nat.le_of_ble_eq_true rfl) (Nat.le_of_ble_eq_true rfl)
  · have f_3 : p1.toInt ≤ p0.toInt := kx_nlt c_1
    refine lv_iload_n hx hb dX7_checkRange_5 rfl (lv_at hl 1 rfl) ?_
    refine lv_iload_n hx hb dX7_checkRange_6 rfl (lv_at hl 3 rfl) ?_
    refine lv_icmp_le (tgt := 21) hx hb dX7_checkRange_7 (by decide) (fun c_4 => ?_) (fun c_4 => ?_)
    · have f_5 : p0.toInt ≤ p2.toInt := kx_le c_4
      refine vx_ret ?_
      refine W.widen (k := 1) (n := 6) (Nat.le_of_ble_eq_true rfl) (Nat.le_of_ble_eq_true rfl) ?_
      exact W.vret hx hb hr (fun t ht hW => ⟨⟨(), rfl, (by omega), trivial⟩, hS.F ht⟩) hS.2.2 dX7_checkRange_21
    · have f_6 : p2.toInt < p0.toInt := kx_nle c_4
      obtain ⟨sa9, hsa9⟩ := hE.2.1 (362, "a number is out of range") (by decide +kernel)
      exact vx_throwSW (own := RX7) (cls := "java/lang/IllegalArgumentException") (text := "a number is out of range") (names := ["java/lang/RuntimeException", "java/lang/Exception"]) (A := (fun _ : Nat => False)) hx hb hl9 hown (by decide +kernel) (by decide +kernel) (hts (.classLink RX7 95 "java/lang/IllegalArgumentException") (List.mem_cons_of_mem _ (List.mem_append_left _ (List.mem_of_getElem? (i := 0) rfl)))) (hts (.initialized "java/lang/IllegalArgumentException") (List.mem_cons_of_mem _ (List.mem_append_left _ (List.mem_of_getElem? (i := 1) rfl)))) hsa9 (ex_hat hE (fun w h => hts w (List.mem_cons_of_mem _ (List.mem_append_right _ h))) (by decide +kernel) (by decide +kernel)) (by decide +kernel) hE.1.1 hE.1.2 hS (by rw [hml]; exact hl.1) dX7_checkRange_10 dX7_checkRange_13 dX7_checkRange_14 dX7_checkRange_17 dX7_checkRange_20 (fun x hx => (ht9 x hx).elim) (Nat.le_of_ble_eq_true rfl) (Nat.le_of_ble_eq_true rfl) (Nat.le_of_ble_eq_true rfl) (Nat.le_of_ble_eq_true rfl) hlocks (fun t hal hz hk => ⟨(), trivial, (⟨rfl, (by omega)⟩), kx_thr hS hz hk⟩) hS.2.2 (Nat.le_of_ble_eq_true rfl) (Nat.le_of_ble_eq_true rfl)
set_option maxHeartbeats 4000000 in
set_option maxRecDepth 100000 in
theorem k_X3_init (l : Launch) (D : va_G) (cy : Nat → ClassId) (h1 : Nat) (x2 : Value) (x3 : Value) (sz : Nat) : Met l yX3_init wsX3_init ({ frames := 1, cells := 2, slots := 14, locals := 12 }) (kW D cy [.ref h1] [(h1, .inr (8, [.null, x2, x3]))] sz) (va_Qv (fun (u : Nat × Nat) => match u with | (z1, z2) => True) (fun (u : Nat × Nat) (t : State) => match u with | (z1, z2) => va_P D vwCl [(h1, .inr (8, [.ref z1, .ref z2, x3]))] t.heap ∧ va_D (va_A [(h1, .inr (8, [.null, x2, x3]))] sz) [(h1, .inr (8, [.ref z1, .ref z2, x3]))]) (va_A [(h1, .inr (8, [.null, x2, x3]))] sz)) 2 14 (va_A [(h1, .inr (8, [.null, x2, x3]))] sz) := by
  refine Met.ofW (cc := cX3_init) (maxL := 2) (ret := none) (by decide) rfl ?_
  intro p e s m args below meth c s₁ B hml hv
  obtain ⟨rfl, hsz, hP, hK, hD0⟩ := hv
  have hx := B.exec
  have hb := B.bytes
  have hr := B.returns
  have hts := atoms_spec (ws := wsX3_init) B.pre
  have hown : s.vm.findClass RX3 = some m.cls := findClass_of_methodNamed B.named
  have hlocks := B.notSynchronized
  have hin : meth.name = "<init>" := (name_of_methodNamed B.named B.method).1
  subst hsz
  have hD := hD0.self (sz := s.heap.size)
  generalize hAe : va_A [(h1, .inr (8, [.null, x2, x3]))] s.heap.size = A at hD ⊢
  have hA : ∀ q : Nat, s.heap.size ≤ q → A q := fun q h => by rw [← hAe]; exact Or.inr h
  have hS : va_S A s.heap s.heap [] := va_S.rf
  have hP : va_P D vwCl [(h1, .inr (8, [.null, x2, x3]))] s.heap := hP
  have hl := lv_entry ([.ref h1]) (n := 2) (Nat.le_of_ble_eq_true rfl)
  rw [lg_entry_eq]
  generalize (lg_sl ([.ref h1]) ++ List.replicate (2 - (lg_sl ([.ref h1])).length) Slot.unset).toArray = ls at hl ⊢
  have hl : lv_has ls 2 [(0, .ref h1)] := hl
  refine lv_aload_n hx hb dX3_init_0 rfl (lv_at hl 0 rfl) ?_
  refine W.objInit hx hb hown (hts (.methodLink RX3 3 objectInit) (List.mem_cons_of_mem _ (List.mem_append_left _ (List.mem_append_left _ (List.mem_of_getElem? (i := 0) rfl))))) (hts (.instanceMethod objectInit) (List.mem_cons_of_mem _ (List.mem_append_left _ (List.mem_append_left _ (List.mem_of_getElem? (i := 1) rfl))))) (hts (.code objectInit ⟨#[0xb1]⟩ 1 none) (List.mem_cons_of_mem _ (List.mem_append_left _ (List.mem_append_left _ (List.mem_of_getElem? (i := 2) rfl))))) rfl (by rw [hml]; exact hl.1) rfl dX3_init_1 (Nat.le_of_ble_eq_true rfl) (Nat.le_of_ble_eq_true rfl) ?_
  refine W.eq (g2 := F0 m 4 ls []) rfl ?_
  refine lv_aload_n hx hb dX3_init_4 rfl (lv_at hl 0 rfl) ?_
  refine lv_bipush (v := 6) hx hb dX3_init_5 (by decide) ?_
  refine va_newa (atype := .int) (ty := .int) (N' := 6) (a0 := (6, .inl (fun _ => 0))) hx hb (hts (.arrayClass .int) (List.mem_cons_of_mem _ (List.mem_append_left _ (List.mem_append_left _ (List.mem_of_getElem? (i := 3) rfl))))) rfl hK hP hD hS hA (fun _ => rfl) (by decide) (by decide) (Nat.le_of_ble_eq_true rfl) (Nat.le_of_ble_eq_true rfl) (Nat.le_of_ble_eq_true rfl) dX3_init_7 (fun q_1 cA_2 H hK hP hD hS => ?_)
  obtain rfl : cA_2 = cy 1 := kx_ty hK 10 1 rfl rfl
  have hK := hK.sub (tys' := tyG cy) [0, 1, 2, 3, 4, 5, 6, 7, 8, 9] rfl
  have hP : va_P D vwCl [(h1, .inr (8, [.null, x2, x3])), (q_1, .inl (cy 1, 6, .inl (fun _ => 0)))] H := hP
  have hD : va_D A [(h1, .inr (8, [.null, x2, x3])), (q_1, .inl (cy 1, 6, .inl (fun _ => 0)))] := hD
  refine W.widen (k := 1) (n := 6) (Nat.le_of_ble_eq_true rfl) (Nat.le_of_ble_eq_true rfl) ?_
  refine va_putF (D := D) (ci := 8) (v := .ref q_1) (ty := .array .int) (C := RX3) (T := TX3) (N := 3) hx hb hts (fun _ h => (List.mem_cons_of_mem _ (List.mem_append_left _ (List.mem_append_right _ h)))) tyX3 tyX3_ok nmX3 hown hK hP hD hS 0 rfl rfl 0 (by decide) (hts (.fieldLink RX3 9 "SelfishJunction$Play" "chosen" "[I") (List.mem_cons_of_mem _ (List.mem_append_left _ (List.mem_append_left _ (List.mem_of_getElem? (i := 4) rfl))))) (fun _ h9 => h9) rfl hin rfl (by decide +kernel) rfl rfl (Nat.le_of_ble_eq_true rfl) dX3_init_9 (fun H locs hP hD hS => ?_)
  have hP : va_P D vwCl [(h1, .inr (8, [.ref q_1, x2, x3])), (q_1, .inl (cy 1, 6, .inl (fun _ => 0)))] H := hP
  have hD : va_D A [(h1, .inr (8, [.ref q_1, x2, x3])), (q_1, .inl (cy 1, 6, .inl (fun _ => 0)))] := hD
  refine lv_aload_n hx hb dX3_init_12 rfl (lv_at hl 0 rfl) ?_
  refine lv_bipush (v := 8) hx hb dX3_init_13 (by decide) ?_
  refine va_newa (atype := .int) (ty := .int) (N' := 8) (a0 := (8, .inl (fun _ => 0))) hx hb (hts (.arrayClass .int) (List.mem_cons_of_mem _ (List.mem_append_left _ (List.mem_append_left _ (List.mem_of_getElem? (i := 3) rfl))))) rfl hK hP hD hS hA (fun _ => rfl) (by decide) (by decide) (Nat.le_of_ble_eq_true rfl) (Nat.le_of_ble_eq_true rfl) (Nat.le_of_ble_eq_true rfl) dX3_init_15 (fun q_3 cA_4 H hK hP hD hS => ?_)
  obtain rfl : cA_4 = cy 1 := kx_ty hK 10 1 rfl rfl
  have hK := hK.sub (tys' := tyG cy) [0, 1, 2, 3, 4, 5, 6, 7, 8, 9] rfl
  have hP : va_P D vwCl [(h1, .inr (8, [.ref q_1, x2, x3])), (q_1, .inl (cy 1, 6, .inl (fun _ => 0))), (q_3, .inl (cy 1, 8, .inl (fun _ => 0)))] H := hP
  have hD : va_D A [(h1, .inr (8, [.ref q_1, x2, x3])), (q_1, .inl (cy 1, 6, .inl (fun _ => 0))), (q_3, .inl (cy 1, 8, .inl (fun _ => 0)))] := hD
  refine W.widen (k := 2) (n := 14) (Nat.le_of_ble_eq_true rfl) (Nat.le_of_ble_eq_true rfl) ?_
  refine va_putF (D := D) (ci := 8) (v := .ref q_3) (ty := .array .int) (C := RX3) (T := TX3) (N := 3) hx hb hts (fun _ h => (List.mem_cons_of_mem _ (List.mem_append_left _ (List.mem_append_right _ h)))) tyX3 tyX3_ok nmX3 hown hK hP hD hS 0 rfl rfl 1 (by decide) (hts (.fieldLink RX3 15 "SelfishJunction$Play" "loads" "[I") (List.mem_cons_of_mem _ (List.mem_append_left _ (List.mem_append_left _ (List.mem_of_getElem? (i := 5) rfl))))) (fun _ h9 => h9) rfl hin rfl (by decide +kernel) rfl rfl (Nat.le_of_ble_eq_true rfl) dX3_init_17 (fun H locs hP hD hS => ?_)
  have hP : va_P D vwCl [(h1, .inr (8, [.ref q_1, .ref q_3, x3])), (q_1, .inl (cy 1, 6, .inl (fun _ => 0))), (q_3, .inl (cy 1, 8, .inl (fun _ => 0)))] H := hP
  have hD : va_D A [(h1, .inr (8, [.ref q_1, .ref q_3, x3])), (q_1, .inl (cy 1, 6, .inl (fun _ => 0))), (q_3, .inl (cy 1, 8, .inl (fun _ => 0)))] := hD
  refine lv_iconst (v := 0) hx hb dX3_init_20 (by decide) ?_
  refine lv_istore_n (lv' := [(1, .int 0), (0, .ref h1)]) hx hb dX3_init_21 rfl hl (by decide) rfl (fun ls hl => ?_)
  refine lv_iload_n hx hb dX3_init_22 rfl (lv_at hl 0 rfl) ?_
  refine lv_bipush (v := 6) hx hb dX3_init_23 (by decide) ?_
  refine lv_icmp_ge (tgt := 41) hx hb dX3_init_25 (by decide) (fun h => absurd h (by decide)) (fun _ => ?_)
  refine lv_aload_n hx hb dX3_init_28 rfl (lv_at hl 1 rfl) ?_
  refine va_get (D := D) (ci := 8) (v := .ref q_1) (C := RX3) (T := TX3) (N := 3) hx hb hts (fun _ h => (List.mem_cons_of_mem _ (List.mem_append_left _ (List.mem_append_right _ h)))) hown hK hP 0 rfl rfl 0 (by decide) (hts (.fieldLink RX3 9 "SelfishJunction$Play" "chosen" "[I") (List.mem_cons_of_mem _ (List.mem_append_left _ (List.mem_append_left _ (List.mem_of_getElem? (i := 4) rfl))))) (fun _ h9 => h9) rfl dX3_init_29 ?_
  refine lv_iload_n hx hb dX3_init_32 rfl (lv_at hl 0 rfl) ?_
  refine lv_iconst (v := (-1)) hx hb dX3_init_33 (by decide) ?_
  refine va_iast hx hb hK hP hD hS 1 1 rfl rfl (kx_in 0 6 rfl ⟨(Nat.le_of_ble_eq_true rfl), (Nat.le_of_ble_eq_true rfl)⟩ (Nat.le_of_ble_eq_true rfl)) dX3_init_34 (fun H locs hP hD hS => ?_)
  have hP : va_P D vwCl [(h1, .inr (8, [.ref q_1, .ref q_3, x3])), (q_1, .inl (cy 1, 6, .inl (upd (fun _ => 0) 0 (-1)))), (q_3, .inl (cy 1, 8, .inl (fun _ => 0)))] H := hP
  have hD : va_D A [(h1, .inr (8, [.ref q_1, .ref q_3, x3])), (q_1, .inl (cy 1, 6, .inl (upd (fun _ => 0) 0 (-1)))), (q_3, .inl (cy 1, 8, .inl (fun _ => 0)))] := hD
  refine lv_iinc (v := 1) (lv' := [(1, .int 1), (0, .ref h1)]) hx hb dX3_init_35 hl (k := 0) rfl (by decide) (by decide) rfl (fun ls hl => ?_)
  refine lv_goto (tgt := 22) hx hb dX3_init_38 (by decide) ?_
  refine lv_iload_n hx hb dX3_init_22 rfl (lv_at hl 0 rfl) ?_
  refine lv_bipush (v := 6) hx hb dX3_init_23 (by decide) ?_
  refine lv_icmp_ge (tgt := 41) hx hb dX3_init_25 (by decide) (fun h => absurd h (by decide)) (fun _ => ?_)
  refine lv_aload_n hx hb dX3_init_28 rfl (lv_at hl 1 rfl) ?_
  refine va_get (D := D) (ci := 8) (v := .ref q_1) (C := RX3) (T := TX3) (N := 3) hx hb hts (fun _ h => (List.mem_cons_of_mem _ (List.mem_append_left _ (List.mem_append_right _ h)))) hown hK hP 0 rfl rfl 0 (by decide) (hts (.fieldLink RX3 9 "SelfishJunction$Play" "chosen" "[I") (List.mem_cons_of_mem _ (List.mem_append_left _ (List.mem_append_left _ (List.mem_of_getElem? (i := 4) rfl))))) (fun _ h9 => h9) rfl dX3_init_29 ?_
  refine lv_iload_n hx hb dX3_init_32 rfl (lv_at hl 0 rfl) ?_
  refine lv_iconst (v := (-1)) hx hb dX3_init_33 (by decide) ?_
  refine va_iast hx hb hK hP hD hS 1 1 rfl rfl (kx_in 1 6 rfl ⟨(Nat.le_of_ble_eq_true rfl), (Nat.le_of_ble_eq_true rfl)⟩ (Nat.le_of_ble_eq_true rfl)) dX3_init_34 (fun H locs hP hD hS => ?_)
  have hP : va_P D vwCl [(h1, .inr (8, [.ref q_1, .ref q_3, x3])), (q_1, .inl (cy 1, 6, .inl (upd (upd (fun _ => 0) 0 (-1)) 1 (-1)))), (q_3, .inl (cy 1, 8, .inl (fun _ => 0)))] H := hP
  have hD : va_D A [(h1, .inr (8, [.ref q_1, .ref q_3, x3])), (q_1, .inl (cy 1, 6, .inl (upd (upd (fun _ => 0) 0 (-1)) 1 (-1)))), (q_3, .inl (cy 1, 8, .inl (fun _ => 0)))] := hD
  refine lv_iinc (v := 2) (lv' := [(1, .int 2), (0, .ref h1)]) hx hb dX3_init_35 hl (k := 0) rfl (by decide) (by decide) rfl (fun ls hl => ?_)
  refine lv_goto (tgt := 22) hx hb dX3_init_38 (by decide) ?_
  refine lv_iload_n hx hb dX3_init_22 rfl (lv_at hl 0 rfl) ?_
  refine lv_bipush (v := 6) hx hb dX3_init_23 (by decide) ?_
  refine lv_icmp_ge (tgt := 41) hx hb dX3_init_25 (by decide) (fun h => absurd h (by decide)) (fun _ => ?_)
  refine lv_aload_n hx hb dX3_init_28 rfl (lv_at hl 1 rfl) ?_
  refine va_get (D := D) (ci := 8) (v := .ref q_1) (C := RX3) (T := TX3) (N := 3) hx hb hts (fun _ h => (List.mem_cons_of_mem _ (List.mem_append_left _ (List.mem_append_right _ h)))) hown hK hP 0 rfl rfl 0 (by decide) (hts (.fieldLink RX3 9 "SelfishJunction$Play" "chosen" "[I") (List.mem_cons_of_mem _ (List.mem_append_left _ (List.mem_append_left _ (List.mem_of_getElem? (i := 4) rfl))))) (fun _ h9 => h9) rfl dX3_init_29 ?_
  refine lv_iload_n hx hb dX3_init_32 rfl (lv_at hl 0 rfl) ?_
  refine lv_iconst (v := (-1)) hx hb dX3_init_33 (by decide) ?_
  refine va_iast hx hb hK hP hD hS 1 1 rfl rfl (kx_in 2 6 rfl ⟨(Nat.le_of_ble_eq_true rfl), (Nat.le_of_ble_eq_true rfl)⟩ (Nat.le_of_ble_eq_true rfl)) dX3_init_34 (fun H locs hP hD hS => ?_)
  have hP : va_P D vwCl [(h1, .inr (8, [.ref q_1, .ref q_3, x3])), (q_1, .inl (cy 1, 6, .inl (upd (upd (upd (fun _ => 0) 0 (-1)) 1 (-1)) 2 (-1)))), (q_3, .inl (cy 1, 8, .inl (fun _ => 0)))] H := hP
  have hD : va_D A [(h1, .inr (8, [.ref q_1, .ref q_3, x3])), (q_1, .inl (cy 1, 6, .inl (upd (upd (upd (fun _ => 0) 0 (-1)) 1 (-1)) 2 (-1)))), (q_3, .inl (cy 1, 8, .inl (fun _ => 0)))] := hD
  refine lv_iinc (v := 3) (lv' := [(1, .int 3), (0, .ref h1)]) hx hb dX3_init_35 hl (k := 0) rfl (by decide) (by decide) rfl (fun ls hl => ?_)
  refine lv_goto (tgt := 22) hx hb dX3_init_38 (by decide) ?_
  refine lv_iload_n hx hb dX3_init_22 rfl (lv_at hl 0 rfl) ?_
  refine lv_bipush (v := 6) hx hb dX3_init_23 (by decide) ?_
  refine lv_icmp_ge (tgt := 41) hx hb dX3_init_25 (by decide) (fun h => absurd h (by decide)) (fun _ => ?_)
  refine lv_aload_n hx hb dX3_init_28 rfl (lv_at hl 1 rfl) ?_
  refine va_get (D := D) (ci := 8) (v := .ref q_1) (C := RX3) (T := TX3) (N := 3) hx hb hts (fun _ h => (List.mem_cons_of_mem _ (List.mem_append_left _ (List.mem_append_right _ h)))) hown hK hP 0 rfl rfl 0 (by decide) (hts (.fieldLink RX3 9 "SelfishJunction$Play" "chosen" "[I") (List.mem_cons_of_mem _ (List.mem_append_left _ (List.mem_append_left _ (List.mem_of_getElem? (i := 4) rfl))))) (fun _ h9 => h9) rfl dX3_init_29 ?_
  refine lv_iload_n hx hb dX3_init_32 rfl (lv_at hl 0 rfl) ?_
  refine lv_iconst (v := (-1)) hx hb dX3_init_33 (by decide) ?_
  refine va_iast hx hb hK hP hD hS 1 1 rfl rfl (kx_in 3 6 rfl ⟨(Nat.le_of_ble_eq_true rfl), (Nat.le_of_ble_eq_true rfl)⟩ (Nat.le_of_ble_eq_true rfl)) dX3_init_34 (fun H locs hP hD hS => ?_)
  have hP : va_P D vwCl [(h1, .inr (8, [.ref q_1, .ref q_3, x3])), (q_1, .inl (cy 1, 6, .inl (upd (upd (upd (upd (fun _ => 0) 0 (-1)) 1 (-1)) 2 (-1)) 3 (-1)))), (q_3, .inl (cy 1, 8, .inl (fun _ => 0)))] H := hP
  have hD : va_D A [(h1, .inr (8, [.ref q_1, .ref q_3, x3])), (q_1, .inl (cy 1, 6, .inl (upd (upd (upd (upd (fun _ => 0) 0 (-1)) 1 (-1)) 2 (-1)) 3 (-1)))), (q_3, .inl (cy 1, 8, .inl (fun _ => 0)))] := hD
  refine lv_iinc (v := 4) (lv' := [(1, .int 4), (0, .ref h1)]) hx hb dX3_init_35 hl (k := 0) rfl (by decide) (by decide) rfl (fun ls hl => ?_)
  refine lv_goto (tgt := 22) hx hb dX3_init_38 (by decide) ?_
  refine lv_iload_n hx hb dX3_init_22 rfl (lv_at hl 0 rfl) ?_
  refine lv_bipush (v := 6) hx hb dX3_init_23 (by decide) ?_
  refine lv_icmp_ge (tgt := 41) hx hb dX3_init_25 (by decide) (fun h => absurd h (by decide)) (fun _ => ?_)
  refine lv_aload_n hx hb dX3_init_28 rfl (lv_at hl 1 rfl) ?_
  refine va_get (D := D) (ci := 8) (v := .ref q_1) (C := RX3) (T := TX3) (N := 3) hx hb hts (fun _ h => (List.mem_cons_of_mem _ (List.mem_append_left _ (List.mem_append_right _ h)))) hown hK hP 0 rfl rfl 0 (by decide) (hts (.fieldLink RX3 9 "SelfishJunction$Play" "chosen" "[I") (List.mem_cons_of_mem _ (List.mem_append_left _ (List.mem_append_left _ (List.mem_of_getElem? (i := 4) rfl))))) (fun _ h9 => h9) rfl dX3_init_29 ?_
  refine lv_iload_n hx hb dX3_init_32 rfl (lv_at hl 0 rfl) ?_
  refine lv_iconst (v := (-1)) hx hb dX3_init_33 (by decide) ?_
  refine va_iast hx hb hK hP hD hS 1 1 rfl rfl (kx_in 4 6 rfl ⟨(Nat.le_of_ble_eq_true rfl), (Nat.le_of_ble_eq_true rfl)⟩ (Nat.le_of_ble_eq_true rfl)) dX3_init_34 (fun H locs hP hD hS => ?_)
  have hP : va_P D vwCl [(h1, .inr (8, [.ref q_1, .ref q_3, x3])), (q_1, .inl (cy 1, 6, .inl (upd (upd (upd (upd (upd (fun _ => 0) 0 (-1)) 1 (-1)) 2 (-1)) 3 (-1)) 4 (-1)))), (q_3, .inl (cy 1, 8, .inl (fun _ => 0)))] H := hP
  have hD : va_D A [(h1, .inr (8, [.ref q_1, .ref q_3, x3])), (q_1, .inl (cy 1, 6, .inl (upd (upd (upd (upd (upd (fun _ => 0) 0 (-1)) 1 (-1)) 2 (-1)) 3 (-1)) 4 (-1)))), (q_3, .inl (cy 1, 8, .inl (fun _ => 0)))] := hD
  refine lv_iinc (v := 5) (lv' := [(1, .int 5), (0, .ref h1)]) hx hb dX3_init_35 hl (k := 0) rfl (by decide) (by decide) rfl (fun ls hl => ?_)
  refine lv_goto (tgt := 22) hx hb dX3_init_38 (by decide) ?_
  refine lv_iload_n hx hb dX3_init_22 rfl (lv_at hl 0 rfl) ?_
  refine lv_bipush (v := 6) hx hb dX3_init_23 (by decide) ?_
  refine lv_icmp_ge (tgt := 41) hx hb dX3_init_25 (by decide) (fun h => absurd h (by decide)) (fun _ => ?_)
  refine lv_aload_n hx hb dX3_init_28 rfl (lv_at hl 1 rfl) ?_
  refine va_get (D := D) (ci := 8) (v := .ref q_1) (C := RX3) (T := TX3) (N := 3) hx hb hts (fun _ h => (List.mem_cons_of_mem _ (List.mem_append_left _ (List.mem_append_right _ h)))) hown hK hP 0 rfl rfl 0 (by decide) (hts (.fieldLink RX3 9 "SelfishJunction$Play" "chosen" "[I") (List.mem_cons_of_mem _ (List.mem_append_left _ (List.mem_append_left _ (List.mem_of_getElem? (i := 4) rfl))))) (fun _ h9 => h9) rfl dX3_init_29 ?_
  refine lv_iload_n hx hb dX3_init_32 rfl (lv_at hl 0 rfl) ?_
  refine lv_iconst (v := (-1)) hx hb dX3_init_33 (by decide) ?_
  refine va_iast hx hb hK hP hD hS 1 1 rfl rfl (kx_in 5 6 rfl ⟨(Nat.le_of_ble_eq_true rfl), (Nat.le_of_ble_eq_true rfl)⟩ (Nat.le_of_ble_eq_true rfl)) dX3_init_34 (fun H locs hP hD hS => ?_)
  have hP : va_P D vwCl [(h1, .inr (8, [.ref q_1, .ref q_3, x3])), (q_1, .inl (cy 1, 6, .inl (upd (upd (upd (upd (upd (upd (fun _ => 0) 0 (-1)) 1 (-1)) 2 (-1)) 3 (-1)) 4 (-1)) 5 (-1)))), (q_3, .inl (cy 1, 8, .inl (fun _ => 0)))] H := hP
  have hD : va_D A [(h1, .inr (8, [.ref q_1, .ref q_3, x3])), (q_1, .inl (cy 1, 6, .inl (upd (upd (upd (upd (upd (upd (fun _ => 0) 0 (-1)) 1 (-1)) 2 (-1)) 3 (-1)) 4 (-1)) 5 (-1)))), (q_3, .inl (cy 1, 8, .inl (fun _ => 0)))] := hD
  refine lv_iinc (v := 6) (lv' := [(1, .int 6), (0, .ref h1)]) hx hb dX3_init_35 hl (k := 0) rfl (by decide) (by decide) rfl (fun ls hl => ?_)
  refine lv_goto (tgt := 22) hx hb dX3_init_38 (by decide) ?_
  refine lv_iload_n hx hb dX3_init_22 rfl (lv_at hl 0 rfl) ?_
  refine lv_bipush (v := 6) hx hb dX3_init_23 (by decide) ?_
  refine lv_icmp_ge (tgt := 41) hx hb dX3_init_25 (by decide) (fun _ => ?_) (fun h => absurd (by decide) h)
  refine W.widen (k := 2) (n := 14) (Nat.le_of_ble_eq_true rfl) (Nat.le_of_ble_eq_true rfl) ?_
  have hP9 := hP.sub (ws' := [(h1, .inr (8, [.ref q_1, .ref q_3, x3]))]) [0] rfl
  have hD9 := hD.sub (ws' := [(h1, .inr (8, [.ref q_1, .ref q_3, x3]))]) [0] (by decide) rfl
  exact W.vret hx hb hr (fun t ht hW => ⟨⟨(q_1, q_3), rfl, trivial, ⟨by rw [ht]; exact hP9, hD9⟩⟩, hS.F ht⟩) hS.2.2 dX3_init_41
