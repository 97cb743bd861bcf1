set_option maxHeartbeats 4000000 in
set_option maxRecDepth 100000 in
theorem b_X7_setSeedT {X : VC} {μ : Mem} (n : Int) (h : -1000 ≤ n ∧ n < 1) (K : vK X cX7_setSeed 3 RX7 wsX7_setSeed ({ frames := 7, cells := 1, slots := 6, locals := 105 } : Room)) (T : vT X μ "java/lang/IllegalArgumentException") : vW X 3 0 0 0 [(0, .ref (vAd X 0)), (1, .int (iZ n))] [] μ := by
  refine v_aload_n 0 K dX7_setSeed_0 rfl ?_
  refine v_iload_n 1 K dX7_setSeed_1 rfl ?_
  refine v_iconst K dX7_setSeed_2 ?_
  refine v_ldcw (v := 2147483646) (n := 2147483646) K (List.mem_cons_of_mem _ (List.mem_append_left _ (List.mem_append_left _ (List.mem_of_getElem? (i := 0) rfl)))) dX7_setSeed_3 (by decide) ?_
  exact v_callVTv (c := 0) (As := [.int (iZ n), .int (iZ 1), .int (iZ 2147483646)]) (rest := []) K T isO_SJ rfl 3 (c_X7_checkRangeT X.1.2.1 K.2.2.2.2.2.2 _ _ _ μ n 1 2147483646 (by omega) (by omega) (by omega) (by omega)) gX7_setSeed_X7_checkRange rfl rfl rfl (by decide +kernel) ⟨(Nat.le_of_ble_eq_true rfl), (Nat.le_of_ble_eq_true rfl)⟩ rfl rfl (Nat.le_of_ble_eq_true rfl) dX7_setSeed_6 ⟨(Nat.le_of_ble_eq_true rfl), (Nat.le_of_ble_eq_true rfl)⟩ (Nat.le_of_ble_eq_true rfl) (Nat.le_of_ble_eq_true rfl)
theorem c_X7_setSeedT (l : Launch) (hl : l.stackTraces = false) (D : va_G) (cy : Nat → ClassId) (ad : Nat → Nat) (μ : Mem) (n : Int) (h : -1000 ≤ n ∧ n < 1) : cTi l yX7_setSeed wsX7_setSeed ({ frames := 7, cells := 1, slots := 6, locals := 105 } : Room) D cy ad μ [.ref (ad 0), .int (iZ n)] "java/lang/IllegalArgumentException" :=
  m_thri (av := (fun ad => [.ref (ad 0), .int (iZ n)])) hl (by decide) rfl rfl (Nat.le_of_ble_eq_true rfl) (fun X K T => b_X7_setSeedT n h K T)
theorem dX7_improve_0 : decode cX7_improve 0 = .ok (.aload_n 0, 1) := by decide +kernel
theorem dX7_improve_1 : decode cX7_improve 1 = .ok (.iload_n 1, 1) := by decide +kernel
theorem dX7_improve_2 : decode cX7_improve 2 = .ok (.invokevirtual 88, 3) := by decide +kernel
set_option maxRecDepth 20000 in
theorem ggX7_improve_X7_checkPlayer : GoodIn wsX7_improve wsX7_checkPlayer := goodIn_ca (goodIn_r _ [9, 10, 11, 3, 12, 70, 71, 72, 73, 74, 75, 76, 77, 78, 79, 80] (by decide +kernel) (by decide +kernel)) (goodIn_sub (fun _ h => List.mem_cons_of_mem _ (List.mem_append_left _ (List.mem_append_right _ h))) (by decide +kernel))
set_option maxRecDepth 20000 in
theorem gX7_improve_X7_checkPlayer : GoodIn wsX7_improve (wsV RX7 88 RX7 yX7_checkPlayer wsX7_checkPlayer) := goodIn_app (goodIn_of _ (by decide +kernel)) ggX7_improve_X7_checkPlayer
theorem dX7_improve_5 : decode cX7_improve 5 = .ok (.aload_n 0, 1) := by decide +kernel
theorem dX7_improve_6 : decode cX7_improve 6 = .ok (.getfield 10, 3) := by decide +kernel
theorem dX7_improve_9 : decode cX7_improve 9 = .ok (.aload_n 0, 1) := by decide +kernel
theorem dX7_improve_10 : decode cX7_improve 10 = .ok (.getfield 19, 3) := by decide +kernel
theorem dX7_improve_13 : decode cX7_improve 13 = .ok (.iload_n 1, 1) := by decide +kernel
theorem dX7_improve_14 : decode cX7_improve 14 = .ok (.invokevirtual 228, 3) := by decide +kernel
set_option maxRecDepth 20000 in
theorem ggX7_improve_X0_isAsked : GoodIn wsX7_improve wsX0_isAsked := goodIn_ca (goodIn_r _ [17, 18, 19, 20, 77, 78, 79, 80, 81, 82, 83, 84, 85, 86, 87, 88, 89] (by decide +kernel) (by decide +kernel)) (goodIn_sub (fun _ h => List.mem_cons_of_mem _ (List.mem_append_right _ h)) (by decide +kernel))
set_option maxRecDepth 20000 in
theorem gX7_improve_X0_isAsked : GoodIn wsX7_improve (wsV RX7 228 RX0 yX0_isAsked wsX0_isAsked) := goodIn_app (goodIn_of _ (by decide +kernel)) ggX7_improve_X0_isAsked
theorem dX7_improve_17 : decode cX7_improve 17 = .ok (.ifCond .ne 13, 3) := by decide +kernel
theorem dX7_improve_30 : decode cX7_improve 30 = .ok (.aload_n 0, 1) := by decide +kernel
theorem dX7_improve_31 : decode cX7_improve 31 = .ok (.getfield 10, 3) := by decide +kernel
theorem dX7_improve_34 : decode cX7_improve 34 = .ok (.aload_n 0, 1) := by decide +kernel
theorem dX7_improve_35 : decode cX7_improve 35 = .ok (.getfield 19, 3) := by decide +kernel
theorem dX7_improve_38 : decode cX7_improve 38 = .ok (.iload_n 1, 1) := by decide +kernel
theorem dX7_improve_39 : decode cX7_improve 39 = .ok (.invokevirtual 233, 3) := by decide +kernel
set_option maxRecDepth 20000 in
theorem ggX7_improve_X0_gainOf : GoodIn wsX7_improve wsX0_gainOf := goodIn_ca (goodIn_r _ [24, 25, 14, 15, 16, 17, 18, 19, 20, 26, 27, 28, 29, 30, 31, 32, 33, 34, 35, 36, 37, 38, 39, 40, 41, 42, 43, 44, 45, 46, 47, 8, 48, 49, 50, 51, 52, 53, 54, 55, 56, 57, 58, 59, 60, 61, 62, 63, 64, 77, 78, 79, 80, 81, 82, 83, 84, 85, 86, 87, 88, 89, 90, 91, 92, 93, 94, 95, 96] (by decide +kernel) (by decide +kernel)) (goodIn_sub (fun _ h => List.mem_cons_of_mem _ (List.mem_append_right _ h)) (by decide +kernel))
set_option maxRecDepth 20000 in
theorem gX7_improve_X0_gainOf : GoodIn wsX7_improve (wsV RX7 233 RX0 yX0_gainOf wsX0_gainOf) := goodIn_app (goodIn_of _ (by decide +kernel)) ggX7_improve_X0_gainOf
theorem dX7_improve_42 : decode cX7_improve 42 = .ok (.istore_n 2, 1) := by decide +kernel
theorem dX7_improve_43 : decode cX7_improve 43 = .ok (.aload_n 0, 1) := by decide +kernel
theorem dX7_improve_44 : decode cX7_improve 44 = .ok (.getfield 10, 3) := by decide +kernel
theorem dX7_improve_47 : decode cX7_improve 47 = .ok (.aload_n 0, 1) := by decide +kernel
theorem dX7_improve_48 : decode cX7_improve 48 = .ok (.getfield 19, 3) := by decide +kernel
theorem dX7_improve_51 : decode cX7_improve 51 = .ok (.iload_n 1, 1) := by decide +kernel
theorem dX7_improve_52 : decode cX7_improve 52 = .ok (.aload_n 0, 1) := by decide +kernel
theorem dX7_improve_53 : decode cX7_improve 53 = .ok (.getfield 10, 3) := by decide +kernel
theorem dX7_improve_56 : decode cX7_improve 56 = .ok (.aload_n 0, 1) := by decide +kernel
theorem dX7_improve_57 : decode cX7_improve 57 = .ok (.getfield 19, 3) := by decide +kernel
theorem dX7_improve_60 : decode cX7_improve 60 = .ok (.iload_n 1, 1) := by decide +kernel
theorem dX7_improve_61 : decode cX7_improve 61 = .ok (.invokevirtual 225, 3) := by decide +kernel
set_option maxRecDepth 20000 in
theorem ggX7_improve_X0_bestOf : GoodIn wsX7_improve wsX0_bestOf := goodIn_ca (goodIn_r _ [58, 20, 18, 59, 30, 31, 32, 16, 33, 34, 35, 36, 37, 38, 39, 40, 41, 42, 43, 44, 45, 46, 47, 8, 48, 49, 50, 51, 52, 53, 54, 60, 61, 62, 63, 64, 87, 88, 89, 77, 78, 79, 80, 81, 82, 83, 84, 85, 86, 90, 91, 92, 93, 94, 95, 96] (by decide +kernel) (by decide +kernel)) (goodIn_sub (fun _ h => List.mem_cons_of_mem _ (List.mem_append_right _ h)) (by decide +kernel))
set_option maxRecDepth 20000 in
theorem gX7_improve_X0_bestOf : GoodIn wsX7_improve (wsV RX7 225 RX0 yX0_bestOf wsX0_bestOf) := goodIn_app (goodIn_of _ (by decide +kernel)) ggX7_improve_X0_bestOf
theorem dX7_improve_64 : decode cX7_improve 64 = .ok (.invokevirtual 164, 3) := by decide +kernel
set_option maxRecDepth 20000 in
theorem ggX7_improve_X0_take : GoodIn wsX7_improve wsX0_take := goodIn_ca (goodIn_r _ [69, 18, 20, 34, 35, 36, 40, 41, 42, 43, 44, 45, 46, 47, 8, 48, 77, 78, 79, 80, 87, 88, 89, 81, 82, 83, 84, 85, 86] (by decide +kernel) (by decide +kernel)) (goodIn_sub (fun _ h => List.mem_cons_of_mem _ (List.mem_append_right _ h)) (by decide +kernel))
set_option maxRecDepth 20000 in
theorem gX7_improve_X0_take : GoodIn wsX7_improve (wsV RX7 164 RX0 yX0_take wsX0_take) := goodIn_app (goodIn_of _ (by decide +kernel)) ggX7_improve_X0_take
theorem dX7_improve_67 : decode cX7_improve 67 = .ok (.iload_n 2, 1) := by decide +kernel
theorem dX7_improve_68 : decode cX7_improve 68 = .ok (.ireturn, 1) := by decide +kernel
set_option maxHeartbeats 4000000 in
set_option maxRecDepth 100000 in
theorem b_X7_improve {X : VC} {μ : Mem} (p : Nat) (hW : WF μ) (hB : PB μ 0) (hp : p < pcn μ) (hak : ask μ 0 p = 1) (K : vK X cX7_improve 3 RX7 wsX7_improve ({ frames := 4, cells := 0, slots := 0, locals := 98 } : Room)) (hret : ∀ (z : Int) (ν : Mem), (fun (z : Int) (ν : Mem) => z = gn μ 0 p ∧ TK μ ν 0 p (bst μ 0 p)) z ν → ∀ n pc k1 k2 lv, k1 ≤ 0 → k2 ≤ 0 → decode cX7_improve pc = .ok (.ireturn, 1) → vW X n pc k1 k2 lv [.int (iZ z)] ν) : vW X 3 0 0 0 [(0, .ref (vAd X 0)), (1, .int (iZ (p : Int)))] [] μ := by
  have hpc := hW.pc6
  have hpl := hW.pl (p := p) (by omega)
  have hbs := bst_rng hW (p := p) (by omega) hB
  have hch := hB.1 p (by omega)
  refine v_aload_n 0 K dX7_improve_0 rfl ?_
  refine v_iload_n 1 K dX7_improve_1 rfl ?_
  refine v_callVvr (c := 0) (As := [.int (iZ (p : Int))]) (rest := []) K isO_SJ rfl 1 (c_X7_checkPlayer X.1.2.1 K.2.2.2.2.2.2 _ _ _ μ (p : Int) (by omega) (by omega)) gX7_improve_X7_checkPlayer rfl rfl rfl (by decide +kernel) ⟨(Nat.le_of_ble_eq_true rfl), (Nat.le_of_ble_eq_true rfl)⟩ rfl rfl (Nat.le_of_ble_eq_true rfl) dX7_improve_2 ⟨(Nat.le_of_ble_eq_true rfl), (Nat.le_of_ble_eq_true rfl)⟩ ?_
  refine v_aload_n 0 K dX7_improve_5 rfl ?_
  refine v_get (c := 0) (k := 0) (C := RX7) (T := TX7) (N := 7) (v := .ref (vAd X 1)) K isO_SJ rfl (fun _ h => (List.mem_cons_of_mem _ (List.mem_append_left _ (List.mem_append_left _ (List.mem_append_left _ (List.mem_append_left _ (List.mem_append_left _ (List.mem_append_left _ (List.mem_append_left _ (List.mem_append_right _ h)))))))))) (by decide) (List.mem_cons_of_mem _ (List.mem_append_left _ (List.mem_append_left _ (List.mem_append_left _ (List.mem_append_left _ (List.mem_append_left _ (List.mem_append_left _ (List.mem_append_left _ (List.mem_append_left _ (List.mem_append_left _ (List.mem_of_getElem? (i := 2) rfl))))))))))) rfl dX7_improve_6 rfl ?_
  refine v_aload_n 0 K dX7_improve_9 rfl ?_
  refine v_get (c := 0) (k := 1) (C := RX7) (T := TX7) (N := 7) (v := .ref (vAd X (2 + 0))) K isO_SJ rfl (fun _ h => (List.mem_cons_of_mem _ (List.mem_append_left _ (List.mem_append_left _ (List.mem_append_left _ (List.mem_append_left _ (List.mem_append_left _ (List.mem_append_left _ (List.mem_append_left _ (List.mem_append_right _ h)))))))))) (by decide) (List.mem_cons_of_mem _ (List.mem_append_left _ (List.mem_append_left _ (List.mem_append_left _ (List.mem_append_left _ (List.mem_append_left _ (List.mem_append_left _ (List.mem_append_left _ (List.mem_append_left _ (List.mem_append_left _ (List.mem_of_getElem? (i := 3) rfl))))))))))) rfl dX7_improve_10 rfl ?_
  refine v_iload_n 1 K dX7_improve_13 rfl ?_
  refine v_callVir (c := 1) (As := [.ref (vAd X (2 + 0)), .int (iZ (p : Int))]) (rest := []) K isO_Bd rfl 2 (c_X0_isAsked X.1.2.1 K.2.2.2.2.2.2 _ _ _ μ 0 p (by omega) (by omega) hW hB) gX7_improve_X0_isAsked rfl rfl rfl (by decide +kernel) ⟨(Nat.le_of_ble_eq_true rfl), (Nat.le_of_ble_eq_true rfl)⟩ rfl rfl (Nat.le_of_ble_eq_true rfl) dX7_improve_14 ⟨(Nat.le_of_ble_eq_true rfl), (Nat.le_of_ble_eq_true rfl)⟩ ?_
  refine v_if_ne 30 K dX7_improve_17 (by decide) (by omega) (fun c17 => ?_) (fun c17 => (by exfalso; omega))
  refine v_aload_n 0 K dX7_improve_30 rfl ?_
  refine v_get (c := 0) (k := 0) (C := RX7) (T := TX7) (N := 7) (v := .ref (vAd X 1)) K isO_SJ rfl (fun _ h => (List.mem_cons_of_mem _ (List.mem_append_left _ (List.mem_append_left _ (List.mem_append_left _ (List.mem_append_left _ (List.mem_append_left _ (List.mem_append_left _ (List.mem_append_left _ (List.mem_append_right _ h)))))))))) (by decide) (List.mem_cons_of_mem _ (List.mem_append_left _ (List.mem_append_left _ (List.mem_append_left _ (List.mem_append_left _ (List.mem_append_left _ (List.mem_append_left _ (List.mem_append_left _ (List.mem_append_left _ (List.mem_append_left _ (List.mem_of_getElem? (i := 2) rfl))))))))))) rfl dX7_improve_31 rfl ?_
  refine v_aload_n 0 K dX7_improve_34 rfl ?_
  refine v_get (c := 0) (k := 1) (C := RX7) (T := TX7) (N := 7) (v := .ref (vAd X (2 + 0))) K isO_SJ rfl (fun _ h => (List.mem_cons_of_mem _ (List.mem_append_left _ (List.mem_append_left _ (List.mem_append_left _ (List.mem_append_left _ (List.mem_append_left _ (List.mem_append_left _ (List.mem_append_left _ (List.mem_append_right _ h)))))))))) (by decide) (List.mem_cons_of_mem _ (List.mem_append_left _ (List.mem_append_left _ (List.mem_append_left _ (List.mem_append_left _ (List.mem_append_left _ (List.mem_append_left _ (List.mem_append_left _ (List.mem_append_left _ (List.mem_append_left _ (List.mem_of_getElem? (i := 3) rfl))))))))))) rfl dX7_improve_35 rfl ?_
  refine v_iload_n 1 K dX7_improve_38 rfl ?_
  refine v_callVir (c := 1) (As := [.ref (vAd X (2 + 0)), .int (iZ (p : Int))]) (rest := []) K isO_Bd rfl 2 (c_X0_gainOf X.1.2.1 K.2.2.2.2.2.2 _ _ _ μ 0 p (by omega) (by omega) hW hB) gX7_improve_X0_gainOf rfl rfl rfl (by decide +kernel) ⟨(Nat.le_of_ble_eq_true rfl), (Nat.le_of_ble_eq_true rfl)⟩ rfl rfl (Nat.le_of_ble_eq_true rfl) dX7_improve_39 ⟨(Nat.le_of_ble_eq_true rfl), (Nat.le_of_ble_eq_true rfl)⟩ ?_
  refine v_istore_n [(2, .int (iZ (gn μ 0 p))), (0, .ref (vAd X 0)), (1, .int (iZ (p : Int)))] K dX7_improve_42 (by decide) rfl ?_
  refine v_aload_n 1 K dX7_improve_43 rfl ?_
  refine v_get (c := 0) (k := 0) (C := RX7) (T := TX7) (N := 7) (v := .ref (vAd X 1)) K isO_SJ rfl (fun _ h => (List.mem_cons_of_mem _ (List.mem_append_left _ (List.mem_append_left _ (List.mem_append_left _ (List.mem_append_left _ (List.mem_append_left _ (List.mem_append_left _ (List.mem_append_left _ (List.mem_append_right _ h)))))))))) (by decide) (List.mem_cons_of_mem _ (List.mem_append_left _ (List.mem_append_left _ (List.mem_append_left _ (List.mem_append_left _ (List.mem_append_left _ (List.mem_append_left _ (List.mem_append_left _ (List.mem_append_left _ (List.mem_append_left _ (List.mem_of_getElem? (i := 2) rfl))))))))))) rfl dX7_improve_44 rfl ?_
  refine v_aload_n 1 K dX7_improve_47 rfl ?_
  refine v_get (c := 0) (k := 1) (C := RX7) (T := TX7) (N := 7) (v := .ref (vAd X (2 + 0))) K isO_SJ rfl (fun _ h => (List.mem_cons_of_mem _ (List.mem_append_left _ (List.mem_append_left _ (List.mem_append_left _ (List.mem_append_left _ (List.mem_append_left _ (List.mem_append_left _ (List.mem_append_left _ (List.mem_append_right _ h)))))))))) (by decide) (List.mem_cons_of_mem _ (List.mem_append_left _ (List.mem_append_left _ (List.mem_append_left _ (List.mem_append_left _ (List.mem_append_left _ (List.mem_append_left _ (List.mem_append_left _ (List.mem_append_left _ (List.mem_append_left _ (List.mem_of_getElem? (i := 3) rfl))))))))))) rfl dX7_improve_48 rfl ?_
  refine v_iload_n 2 K dX7_improve_51 rfl ?_
  refine v_aload_n 1 K dX7_improve_52 rfl ?_
  refine v_get (c := 0) (k := 0) (C := RX7) (T := TX7) (N := 7) (v := .ref (vAd X 1)) K isO_SJ rfl (fun _ h => (List.mem_cons_of_mem _ (List.mem_append_left _ (List.mem_append_left _ (List.mem_append_left _ (List.mem_append_left _ (List.mem_append_left _ (List.mem_append_left _ (List.mem_append_left _ (List.mem_append_right _ h)))))))))) (by decide) (List.mem_cons_of_mem _ (List.mem_append_left _ (List.mem_append_left _ (List.mem_append_left _ (List.mem_append_left _ (List.mem_append_left _ (List.mem_append_left _ (List.mem_append_left _ (List.mem_append_left _ (List.mem_append_left _ (List.mem_of_getElem? (i := 2) rfl))))))))))) rfl dX7_improve_53 rfl ?_
  refine v_aload_n 1 K dX7_improve_56 rfl ?_
  refine v_get (c := 0) (k := 1) (C := RX7) (T := TX7) (N := 7) (v := .ref (vAd X (2 + 0))) K isO_SJ rfl (fun _ h => (List.mem_cons_of_mem _ (List.mem_append_left _ (List.mem_append_left _ (List.mem_append_left _ (List.mem_append_left _ (List.mem_append_left _ (List.mem_append_left _ (List.mem_append_left _ (List.mem_append_right _ h)))))))))) (by decide) (List.mem_cons_of_mem _ (List.mem_append_left _ (List.mem_append_left _ (List.mem_append_left _ (List.mem_append_left _ (List.mem_append_left _ (List.mem_append_left _ (List.mem_append_left _ (List.mem_append_left _ (List.mem_append_left _ (List.mem_of_getElem? (i := 3) rfl))))))))))) rfl dX7_improve_57 rfl ?_
  refine v_iload_n 2 K dX7_improve_60 rfl ?_
  refine v_callVir (c := 1) (As := [.ref (vAd X (2 + 0)), .int (iZ (p : Int))]) (rest := [.int (iZ (p : Int)), .ref (vAd X (2 + 0)), .ref (vAd X 1)]) K isO_Bd rfl 2 (c_X0_bestOf X.1.2.1 K.2.2.2.2.2.2 _ _ _ μ 0 p (by omega) (by omega) hW hB) gX7_improve_X0_bestOf rfl rfl rfl (by decide +kernel) ⟨(Nat.le_of_ble_eq_true rfl), (Nat.le_of_ble_eq_true rfl)⟩ rfl rfl (Nat.le_of_ble_eq_true rfl) dX7_improve_61 ⟨(Nat.le_of_ble_eq_true rfl), (Nat.le_of_ble_eq_true rfl)⟩ ?_
  refine v_callVv (c := 1) (As := [.ref (vAd X (2 + 0)), .int (iZ (p : Int)), .int (iZ (bst μ 0 p))]) (rest := []) K isO_Bd rfl 3 (c_X0_take X.1.2.1 K.2.2.2.2.2.2 _ _ _ μ 0 p (bst μ 0 p) (by omega) (by omega) hW (by omega) (by omega)) gX7_improve_X0_take rfl rfl rfl (by decide +kernel) ⟨(Nat.le_of_ble_eq_true rfl), (Nat.le_of_ble_eq_true rfl)⟩ rfl rfl (Nat.le_of_ble_eq_true rfl) dX7_improve_64 ⟨(Nat.le_of_ble_eq_true rfl), (Nat.le_of_ble_eq_true rfl)⟩ (fun ν q64 => ?_)
  refine v_iload_n 0 K dX7_improve_67 rfl ?_
  exact hret _ _ ⟨rfl, q64⟩ _ _ _ _ _ (Nat.le_of_ble_eq_true rfl) (Nat.le_of_ble_eq_true rfl) dX7_improve_68
theorem c_X7_improve (l : Launch) (hl : l.stackTraces = false) (D : va_G) (cy : Nat → ClassId) (ad : Nat → Nat) (μ : Mem) (p : Nat) (hW : WF μ) (hB : PB μ 0) (hp : p < pcn μ) (hak : ask μ 0 p = 1) : cI l yX7_improve wsX7_improve ({ frames := 4, cells := 0, slots := 0, locals := 98 } : Room) D cy ad μ [.ref (ad 0), .int (iZ (p : Int))] (fun (z : Int) (ν : Mem) => z = gn μ 0 p ∧ TK μ ν 0 p (bst μ 0 p)) :=
  m_int (av := (fun ad => [.ref (ad 0), .int (iZ (p : Int))])) hl (by decide) rfl rfl (Nat.le_of_ble_eq_true rfl) (fun _ _ _ => rfl) (fun X K hret => b_X7_improve p hW hB hp hak K hret)
theorem dX7_improve_20 : decode cX7_improve 20 = .ok (.new 115, 3) := by decide +kernel
theorem dX7_improve_23 : decode cX7_improve 23 = .ok (.dup, 1) := by decide +kernel
theorem dX7_improve_24 : decode cX7_improve 24 = .ok (.ldc 231, 2) := by decide +kernel
theorem dX7_improve_26 : decode cX7_improve 26 = .ok (.invokespecial 119, 3) := by decide +kernel
theorem dX7_improve_29 : decode cX7_improve 29 = .ok (.athrow, 1) := by decide +kernel
set_option maxHeartbeats 4000000 in
set_option maxRecDepth 100000 in
theorem b_X7_improveT {X : VC} {μ : Mem} (p : Nat) (hW : WF μ) (hB : PB μ 0) (hp : p < pcn μ) (hak : ask μ 0 p = 0) (K : vK X cX7_improve 3 RX7 wsX7_improve ({ frames := 6, cells := 1, slots := 6, locals := 82 } : Room)) (T : vT X μ "java/lang/UnsupportedOperationException") : vW X 3 0 0 0 [(0, .ref (vAd X 0)), (1, .int (iZ (p : Int)))] [] μ := by
  have hpc := hW.pc6
  have hpl := hW.pl (p := p) (by omega)
  refine v_aload_n 0 K dX7_improve_0 rfl ?_
  refine v_iload_n 1 K dX7_improve_1 rfl ?_
  refine v_callVvr (c := 0) (As := [.int (iZ (p : Int))]) (rest := []) K isO_SJ rfl 1 (c_X7_checkPlayer X.1.2.1 K.2.2.2.2.2.2 _ _ _ μ (p : Int) (by omega) (by omega)) gX7_improve_X7_checkPlayer rfl rfl rfl (by decide +kernel) ⟨(Nat.le_of_ble_eq_true rfl), (Nat.le_of_ble_eq_true rfl)⟩ rfl rfl (Nat.le_of_ble_eq_true rfl) dX7_improve_2 ⟨(Nat.le_of_ble_eq_true rfl), (Nat.le_of_ble_eq_true rfl)⟩ ?_
  refine v_aload_n 0 K dX7_improve_5 rfl ?_
  refine v_get (c := 0) (k := 0) (C := RX7) (T := TX7) (N := 7) (v := .ref (vAd X 1)) K isO_SJ rfl (fun _ h => (List.mem_cons_of_mem _ (List.mem_append_left _ (List.mem_append_left _ (List.mem_append_left _ (List.mem_append_left _ (List.mem_append_left _ (List.mem_append_left _ (List.mem_append_left _ (List.mem_append_right _ h)))))))))) (by decide) (List.mem_cons_of_mem _ (List.mem_append_left _ (List.mem_append_left _ (List.mem_append_left _ (List.mem_append_left _ (List.mem_append_left _ (List.mem_append_left _ (List.mem_append_left _ (List.mem_append_left _ (List.mem_append_left _ (List.mem_of_getElem? (i := 2) rfl))))))))))) rfl dX7_improve_6 rfl ?_
  refine v_aload_n 0 K dX7_improve_9 rfl ?_
  refine v_get (c := 0) (k := 1) (C := RX7) (T := TX7) (N := 7) (v := .ref (vAd X (2 + 0))) K isO_SJ rfl (fun _ h => (List.mem_cons_of_mem _ (List.mem_append_left _ (List.mem_append_left _ (List.mem_append_left _ (List.mem_append_left _ (List.mem_append_left _ (List.mem_append_left _ (List.mem_append_left _ (List.mem_append_right _ h)))))))))) (by decide) (List.mem_cons_of_mem _ (List.mem_append_left _ (List.mem_append_left _ (List.mem_append_left _ (List.mem_append_left _ (List.mem_append_left _ (List.mem_append_left _ (List.mem_append_left _ (List.mem_append_left _ (List.mem_append_left _ (List.mem_of_getElem? (i := 3) rfl))))))))))) rfl dX7_improve_10 rfl ?_
  refine v_iload_n 1 K dX7_improve_13 rfl ?_
  refine v_callVir (c := 1) (As := [.ref (vAd X (2 + 0)), .int (iZ (p : Int))]) (rest := []) K isO_Bd rfl 2 (c_X0_isAsked X.1.2.1 K.2.2.2.2.2.2 _ _ _ μ 0 p (by omega) (by omega) hW hB) gX7_improve_X0_isAsked rfl rfl rfl (by decide +kernel) ⟨(Nat.le_of_ble_eq_true rfl), (Nat.le_of_ble_eq_true rfl)⟩ rfl rfl (Nat.le_of_ble_eq_true rfl) dX7_improve_14 ⟨(Nat.le_of_ble_eq_true rfl), (Nat.le_of_ble_eq_true rfl)⟩ ?_
  refine v_if_ne 30 K dX7_improve_17 (by decide) (by omega) (fun c17 => (by exfalso; omega)) (fun c17 => ?_)
  exact v_throwS (own := RX7) (cls := "java/lang/UnsupportedOperationException") (text := "the player is led, or has no way") K T (by decide +kernel) (by decide +kernel) (List.mem_cons_of_mem _ (List.mem_append_left _ (List.mem_append_left _ (List.mem_append_left _ (List.mem_append_left _ (List.mem_append_left _ (List.mem_append_left _ (List.mem_append_left _ (List.mem_append_left _ (List.mem_append_left _ (List.mem_of_getElem? (i := 0) rfl))))))))))) (List.mem_cons_of_mem _ (List.mem_append_left _ (List.mem_append_left _ (List.mem_append_left _ (List.mem_append_left _ (List.mem_append_left _ (List.mem_append_left _ (List.mem_append_left _ (List.mem_append_left _ (List.mem_append_left _ (List.mem_of_getElem? (i := 1) rfl))))))))))) (fun w h => (List.mem_cons_of_mem _ (List.mem_append_left _ (List.mem_append_left _ (List.mem_append_right _ h))))) (by decide +kernel) (by decide +kernel) (by decide +kernel) dX7_improve_20 dX7_improve_23 dX7_improve_24 dX7_improve_26 dX7_improve_29 (Nat.le_of_ble_eq_true rfl) (Nat.le_of_ble_eq_true rfl) (Nat.le_of_ble_eq_true rfl) (Nat.le_of_ble_eq_true rfl)
theorem c_X7_improveT (l : Launch) (hl : l.stackTraces = false) (D : va_G) (cy : Nat → ClassId) (ad : Nat → Nat) (μ : Mem) (p : Nat) (hW : WF μ) (hB : PB μ 0) (hp : p < pcn μ) (hak : ask μ 0 p = 0) : cTi l yX7_improve wsX7_improve ({ frames := 6, cells := 1, slots := 6, locals := 82 } : Room) D cy ad μ [.ref (ad 0), .int (iZ (p : Int))] "java/lang/UnsupportedOperationException" :=
  m_thri (av := (fun ad => [.ref (ad 0), .int (iZ (p : Int))])) hl (by decide) rfl rfl (Nat.le_of_ble_eq_true rfl) (fun X K T => b_X7_improveT p hW hB hp hak K T)
theorem dX7_tollByMargins_0 : decode cX7_tollByMargins 0 = .ok (.iconst 0, 1) := by decide +kernel
theorem dX7_tollByMargins_1 : decode cX7_tollByMargins 1 = .ok (.istore_n 1, 1) := by decide +kernel
theorem dX7_tollByMargins_2 : decode cX7_tollByMargins 2 = .ok (.iconst 0, 1) := by decide +kernel
theorem dX7_tollByMargins_3 : decode cX7_tollByMargins 3 = .ok (.istore_n 2, 1) := by decide +kernel
theorem dX7_tollByMargins_4 : decode cX7_tollByMargins 4 = .ok (.iload_n 2, 1) := by decide +kernel
theorem dX7_tollByMargins_5 : decode cX7_tollByMargins 5 = .ok (.aload_n 0, 1) := by decide +kernel
theorem dX7_tollByMargins_6 : decode cX7_tollByMargins 6 = .ok (.getfield 10, 3) := by decide +kernel
theorem dX7_tollByMargins_9 : decode cX7_tollByMargins 9 = .ok (.getfield 92, 3) := by decide +kernel
theorem dX7_tollByMargins_12 : decode cX7_tollByMargins 12 = .ok (.if_icmp .ge 54, 3) := by decide +kernel
theorem dX7_tollByMargins_66 : decode cX7_tollByMargins 66 = .ok (.iload_n 1, 1) := by decide +kernel
theorem dX7_tollByMargins_67 : decode cX7_tollByMargins 67 = .ok (.ireturn, 1) := by decide +kernel
theorem dX7_tollByMargins_15 : decode cX7_tollByMargins 15 = .ok (.sipush 9999, 3) := by decide +kernel
theorem dX7_tollByMargins_18 : decode cX7_tollByMargins 18 = .ok (.aload_n 0, 1) := by decide +kernel
theorem dX7_tollByMargins_19 : decode cX7_tollByMargins 19 = .ok (.getfield 10, 3) := by decide +kernel
theorem dX7_tollByMargins_22 : decode cX7_tollByMargins 22 = .ok (.getfield 66, 3) := by decide +kernel
theorem dX7_tollByMargins_25 : decode cX7_tollByMargins 25 = .ok (.iload_n 2, 1) := by decide +kernel
theorem dX7_tollByMargins_26 : decode cX7_tollByMargins 26 = .ok (.aaload, 1) := by decide +kernel
theorem dX7_tollByMargins_27 : decode cX7_tollByMargins 27 = .ok (.aload_n 0, 1) := by decide +kernel
theorem dX7_tollByMargins_28 : decode cX7_tollByMargins 28 = .ok (.getfield 19, 3) := by decide +kernel
theorem dX7_tollByMargins_31 : decode cX7_tollByMargins 31 = .ok (.getfield 171, 3) := by decide +kernel
theorem dX7_tollByMargins_34 : decode cX7_tollByMargins 34 = .ok (.iload_n 2, 1) := by decide +kernel
theorem dX7_tollByMargins_35 : decode cX7_tollByMargins 35 = .ok (.iaload, 1) := by decide +kernel
theorem dX7_tollByMargins_36 : decode cX7_tollByMargins 36 = .ok (.invokevirtual 195, 3) := by decide +kernel
set_option maxRecDepth 20000 in
theorem ggX7_tollByMargins_X5_marginBy : GoodIn wsX7_tollByMargins wsX5_marginBy := goodIn_ca (goodIn_r _ [15, 16, 17, 8, 18, 19, 20, 21, 14, 22, 23, 38, 39, 40, 41, 42, 43, 44] (by decide +kernel) (by decide +kernel)) (goodIn_sub (fun _ h => List.mem_cons_of_mem _ (List.mem_append_right _ h)) (by decide +kernel))
set_option maxRecDepth 20000 in
theorem gX7_tollByMargins_X5_marginBy : GoodIn wsX7_tollByMargins (wsV RX7 195 RX5 yX5_marginBy wsX5_marginBy) := goodIn_app (goodIn_of _ (by decide +kernel)) ggX7_tollByMargins_X5_marginBy
theorem dX7_tollByMargins_39 : decode cX7_tollByMargins 39 = .ok (.invokestatic 198, 3) := by decide +kernel
theorem dX7_tollByMargins_42 : decode cX7_tollByMargins 42 = .ok (.istore_n 3, 1) := by decide +kernel
theorem dX7_tollByMargins_43 : decode cX7_tollByMargins 43 = .ok (.aload_n 0, 1) := by decide +kernel
theorem dX7_tollByMargins_44 : decode cX7_tollByMargins 44 = .ok (.getfield 10, 3) := by decide +kernel
theorem dX7_tollByMargins_47 : decode cX7_tollByMargins 47 = .ok (.getfield 66, 3) := by decide +kernel
theorem dX7_tollByMargins_50 : decode cX7_tollByMargins 50 = .ok (.iload_n 2, 1) := by decide +kernel
theorem dX7_tollByMargins_51 : decode cX7_tollByMargins 51 = .ok (.aaload, 1) := by decide +kernel
theorem dX7_tollByMargins_52 : decode cX7_tollByMargins 52 = .ok (.iload_n 3, 1) := by decide +kernel
theorem dX7_tollByMargins_53 : decode cX7_tollByMargins 53 = .ok (.putfield 192, 3) := by decide +kernel
theorem dX7_tollByMargins_56 : decode cX7_tollByMargins 56 = .ok (.iload_n 1, 1) := by decide +kernel
theorem dX7_tollByMargins_57 : decode cX7_tollByMargins 57 = .ok (.iload_n 3, 1) := by decide +kernel
theorem dX7_tollByMargins_58 : decode cX7_tollByMargins 58 = .ok (.iadd, 1) := by decide +kernel
theorem dX7_tollByMargins_59 : decode cX7_tollByMargins 59 = .ok (.istore_n 1, 1) := by decide +kernel
theorem dX7_tollByMargins_60 : decode cX7_tollByMargins 60 = .ok (.iinc 2 1, 3) := by decide +kernel
theorem dX7_tollByMargins_63 : decode cX7_tollByMargins 63 = .ok (.goto (-59), 3) := by decide +kernel
set_option maxHeartbeats 4000000 in
set_option maxRecDepth 100000 in
theorem b_X7_tollByMargins {X : VC} {μ : Mem} (hW : WF μ) (hL : PL μ 0) (K : vK X cX7_tollByMargins 4 RX7 wsX7_tollByMargins ({ frames := 2, cells := 0, slots := 0, locals := 42 } : Room)) (hret : ∀ (z : Int) (ν : Mem), (fun (z : Int) (ν : Mem) => z = sm (rc μ) (mtl μ) ∧ TB μ ν (rc μ)) z ν → ∀ n pc k1 k2 lv, k1 ≤ 0 → k2 ≤ 0 → decode cX7_tollByMargins pc = .ok (.ireturn, 1) → vW X n pc k1 k2 lv [.int (iZ z)] ν) : vW X 4 0 0 0 [(0, .ref (vAd X 0))] [] μ := by
  have hrc := hW.rc8
  refine v_iconst K dX7_tollByMargins_0 ?_
  refine v_istore_n [(1, .int (iZ 0)), (0, .ref (vAd X 0))] K dX7_tollByMargins_1 (by decide) rfl ?_
  refine v_iconst K dX7_tollByMargins_2 ?_
  refine v_istore_n [(2, .int (iZ 0)), (1, .int (iZ 0)), (0, .ref (vAd X 0))] K dX7_tollByMargins_3 (by decide) rfl ?_
  have L4 : ∀ (fuel : Nat) (r : Nat) (ν : Mem) (hm : 9 - r < fuel) (hr : r ≤ rc μ) (hT : TB μ ν r), vW X 4 4 0 0 [(0, .ref (vAd X 0)), (1, .int (iZ (sm r (mtl μ)))), (2, .int (iZ (r : Int)))] [] ν := by
    intro fuel
    induction fuel with
    | zero => intro r ν hm; exact absurd hm (Nat.not_lt_zero _)
    | succ fuel ih4 =>
      intro r ν hm hr hT
      refine v_iload_n 2 K dX7_tollByMargins_4 rfl ?_
      have e1 : ν 1 2 = μ 1 2 := by rw [hT.1 1 (by omega)]
      refine v_aload_n 0 K dX7_tollByMargins_5 rfl ?_
      refine v_get (c := 0) (k := 0) (C := RX7) (T := TX7) (N := 7) (v := .ref (vAd X 1)) K isO_SJ rfl (fun _ h => (List.mem_cons_of_mem _ (List.mem_append_left _ (List.mem_append_left _ (List.mem_append_left _ (List.mem_append_left _ (List.mem_append_right _ h))))))) (by decide) (List.mem_cons_of_mem _ (List.mem_append_left _ (List.mem_append_left _ (List.mem_append_left _ (List.mem_append_left _ (List.mem_append_left _ (List.mem_of_getElem? (i := 0) rfl))))))) rfl dX7_tollByMargins_6 rfl ?_
      refine v_get (c := 1) (k := 2) (C := RX0) (T := TX0) (N := 4) (v := .int (iZ (ν 1 2))) K isO_Bd rfl (fun _ h => (List.mem_cons_of_mem _ (List.mem_append_left _ (List.mem_append_left _ (List.mem_append_left _ (List.mem_append_right _ h)))))) (by decide) (List.mem_cons_of_mem _ (List.mem_append_left _ (List.mem_append_left _ (List.mem_append_left _ (List.mem_append_left _ (List.mem_append_left _ (List.mem_of_getElem? (i := 1) rfl))))))) rfl dX7_tollByMargins_9 rfl ?_
      refine v_icmp_ge 66 K dX7_tollByMargins_12 (by decide) (by omega) (by omega) (fun c12 => ?_) (fun c12 => ?_)
      · refine v_iload_n 1 K dX7_tollByMargins_66 rfl ?_
        exact hret _ _ ⟨(by rw [show rc μ = r by omega]), (by rw [show rc μ = r by omega]; exact hT)⟩ _ _ _ _ _ (Nat.le_of_ble_eq_true rfl) (Nat.le_of_ble_eq_true rfl) dX7_tollByMargins_67
      · have hld := BL_rng hW hL.2.1 (r := r) (by omega)
        have e6 : ν (6 + 2 * 0) r = μ (6 + 2 * 0) r := by rw [hT.1 _ (by omega)]
        have hm := mrg_rng2 hW (r := r) (by omega) hld
        have hWν := TB_WF hW hL hT (by omega)
        have hmr : mrg ν r (μ (6 + 2 * 0) r) = mrg μ r (μ (6 + 2 * 0) r) := TB_mrg hT (by omega)
        refine v_sipush K dX7_tollByMargins_15 (by decide) ?_
        refine v_aload_n 0 K dX7_tollByMargins_18 rfl ?_
        refine v_get (c := 0) (k := 0) (C := RX7) (T := TX7) (N := 7) (v := .ref (vAd X 1)) K isO_SJ rfl (fun _ h => (List.mem_cons_of_mem _ (List.mem_append_left _ (List.mem_append_left _ (List.mem_append_left _ (List.mem_append_left _ (List.mem_append_right _ h))))))) (by decide) (List.mem_cons_of_mem _ (List.mem_append_left _ (List.mem_append_left _ (List.mem_append_left _ (List.mem_append_left _ (List.mem_append_left _ (List.mem_of_getElem? (i := 0) rfl))))))) rfl dX7_tollByMargins_19 rfl ?_
        refine v_get (c := 1) (k := 0) (C := RX0) (T := TX0) (N := 4) (v := .ref (vAd X 19)) K isO_Bd rfl (fun _ h => (List.mem_cons_of_mem _ (List.mem_append_left _ (List.mem_append_left _ (List.mem_append_left _ (List.mem_append_right _ h)))))) (by decide) (List.mem_cons_of_mem _ (List.mem_append_left _ (List.mem_append_left _ (List.mem_append_left _ (List.mem_append_left _ (List.mem_append_left _ (List.mem_of_getElem? (i := 2) rfl))))))) rfl dX7_tollByMargins_22 rfl ?_
        refine v_iload_n 2 K dX7_tollByMargins_25 rfl ?_
        refine v_aald (c := 19) r K isQ_Rs rfl rfl (by omega) dX7_tollByMargins_26 ?_
        refine v_aload_n 0 K dX7_tollByMargins_27 rfl ?_
        refine v_get (c := 0) (k := 1) (C := RX7) (T := TX7) (N := 7) (v := .ref (vAd X (2 + 0))) K isO_SJ rfl (fun _ h => (List.mem_cons_of_mem _ (List.mem_append_left _ (List.mem_append_left _ (List.mem_append_left _ (List.mem_append_left _ (List.mem_append_right _ h))))))) (by decide) (List.mem_cons_of_mem _ (List.mem_append_left _ (List.mem_append_left _ (List.mem_append_left _ (List.mem_append_left _ (List.mem_append_left _ (List.mem_of_getElem? (i := 3) rfl))))))) rfl dX7_tollByMargins_28 rfl ?_
        refine v_get (c := (2 + 0)) (k := 1) (C := RX3) (T := TX3) (N := 3) (v := .ref (vAd X (6 + 2 * 0))) K (isO_Pl (y := 0) (by omega)) rfl (fun _ h => (List.mem_cons_of_mem _ (List.mem_append_left _ (List.mem_append_left _ (List.mem_append_right _ h))))) (by decide) (List.mem_cons_of_mem _ (List.mem_append_left _ (List.mem_append_left _ (List.mem_append_left _ (List.mem_append_left _ (List.mem_append_left _ (List.mem_of_getElem? (i := 4) rfl))))))) rfl dX7_tollByMargins_31 rfl ?_
        refine v_iload_n 2 K dX7_tollByMargins_34 rfl ?_
        refine v_iald (c := (6 + 2 * 0)) r K (isI_ld (y := 0) (by omega)) rfl (by omega) dX7_tollByMargins_35 ?_
        refine v_top (b := (μ (6 + 2 * 0) r)) (by rw [e6]) ?_
        refine v_callVir (c := (21 + r)) (As := [.int (iZ (μ (6 + 2 * 0) r))]) (rest := [.int (iZ 9999)]) K (isO_Rs (r := r) (by omega)) rfl 1 (c_X5_marginBy X.1.2.1 K.2.2.2.2.2.2 _ _ _ ν r (μ (6 + 2 * 0) r) (by omega) (by omega) hWν) gX7_tollByMargins_X5_marginBy rfl rfl rfl (by decide +kernel) ⟨(Nat.le_of_ble_eq_true rfl), (Nat.le_of_ble_eq_true rfl)⟩ rfl rfl (Nat.le_of_ble_eq_true rfl) dX7_tollByMargins_36 ⟨(Nat.le_of_ble_eq_true rfl), (Nat.le_of_ble_eq_true rfl)⟩ ?_
        refine v_top (b := (mrg μ r (μ (6 + 2 * 0) r))) (by rw [hmr]) ?_
        refine v_mmin (by decide) (by omega) K (List.mem_cons_of_mem _ (List.mem_append_left _ (List.mem_append_left _ (List.mem_append_left _ (List.mem_append_left _ (List.mem_append_left _ (List.mem_of_getElem? (i := 5) rfl))))))) (List.mem_cons_of_mem _ (List.mem_append_left _ (List.mem_append_left _ (List.mem_append_left _ (List.mem_append_left _ (List.mem_append_left _ (List.mem_of_getElem? (i := 6) rfl))))))) (List.mem_cons_of_mem _ (List.mem_append_left _ (List.mem_append_left _ (List.mem_append_left _ (List.mem_append_left _ (List.mem_append_left _ (List.mem_of_getElem? (i := 7) rfl))))))) (List.mem_cons_of_mem _ (List.mem_append_left _ (List.mem_append_left _ (List.mem_append_left _ (List.mem_append_left _ (List.mem_append_left _ (List.mem_of_getElem? (i := 8) rfl))))))) (Nat.le_of_ble_eq_true rfl) (Nat.le_of_ble_eq_true rfl) ⟨(Nat.le_of_ble_eq_true rfl), (Nat.le_of_ble_eq_true rfl)⟩ dX7_tollByMargins_39 ?_
        refine v_top (b := (mtl μ r)) (by unfold mtl; rfl) ?_
        refine v_istore_n [(3, .int (iZ (mtl μ r))), (0, .ref (vAd X 0)), (1, .int (iZ (sm r (mtl μ)))), (2, .int (iZ (r : Int)))] K dX7_tollByMargins_42 (by decide) rfl ?_
        refine v_aload_n 1 K dX7_tollByMargins_43 rfl ?_
        refine v_get (c := 0) (k := 0) (C := RX7) (T := TX7) (N := 7) (v := .ref (vAd X 1)) K isO_SJ rfl (fun _ h => (List.mem_cons_of_mem _ (List.mem_append_left _ (List.mem_append_left _ (List.mem_append_left _ (List.mem_append_left _ (List.mem_append_right _ h))))))) (by decide) (List.mem_cons_of_mem _ (List.mem_append_left _ (List.mem_append_left _ (List.mem_append_left _ (List.mem_append_left _ (List.mem_append_left _ (List.mem_of_getElem? (i := 0) rfl))))))) rfl dX7_tollByMargins_44 rfl ?_
        refine v_get (c := 1) (k := 0) (C := RX0) (T := TX0) (N := 4) (v := .ref (vAd X 19)) K isO_Bd rfl (fun _ h => (List.mem_cons_of_mem _ (List.mem_append_left _ (List.mem_append_left _ (List.mem_append_left _ (List.mem_append_right _ h)))))) (by decide) (List.mem_cons_of_mem _ (List.mem_append_left _ (List.mem_append_left _ (List.mem_append_left _ (List.mem_append_left _ (List.mem_append_left _ (List.mem_of_getElem? (i := 2) rfl))))))) rfl dX7_tollByMargins_47 rfl ?_
        refine v_iload_n 3 K dX7_tollByMargins_50 rfl ?_
        refine v_aald (c := 19) r K isQ_Rs rfl rfl (by omega) dX7_tollByMargins_51 ?_
        refine v_iload_n 0 K dX7_tollByMargins_52 rfl ?_
        refine v_put (c := (21 + r)) (k := 5) (C := RX5) (T := TX5) (N := 7) (ty := .int) K (isO_Rs (r := r) (by omega)) rfl (fun _ h => (List.mem_cons_of_mem _ (List.mem_append_left _ (List.mem_append_right _ h)))) tyX5_ok nmX5 (by decide) (List.mem_cons_of_mem _ (List.mem_append_left _ (List.mem_append_left _ (List.mem_append_left _ (List.mem_append_left _ (List.mem_append_left _ (List.mem_of_getElem? (i := 9) rfl))))))) rfl rfl (by decide +kernel) dX7_tollByMargins_53 (fun _ _ _ => rfl) (fun _ _ => Nat.le_of_ble_eq_true rfl) rfl rfl ?_
        refine v_iload_n 2 K dX7_tollByMargins_56 rfl ?_
        refine v_iload_n 0 K dX7_tollByMargins_57 rfl ?_
        refine v_iadd K dX7_tollByMargins_58 ?_
        refine v_istore_n [(1, .int (iZ ((sm r (mtl μ)) + (mtl μ r)))), (3, .int (iZ (mtl μ r))), (0, .ref (vAd X 0)), (2, .int (iZ (r : Int)))] K dX7_tollByMargins_59 (by decide) rfl ?_
        refine v_iinc 3 [(2, .int (iZ ((r : Int) + 1))), (1, .int (iZ ((sm r (mtl μ)) + (mtl μ r)))), (3, .int (iZ (mtl μ r))), (0, .ref (vAd X 0))] K dX7_tollByMargins_60 rfl (by decide) rfl ?_
        refine v_goto 4 K dX7_tollByMargins_63 (by decide) ?_
        refine v_sub [3, 1, 0] rfl ?_
        refine v_eq (lv1 := [(0, .ref (vAd X 0)), (1, .int (iZ (sm (r + 1) (mtl μ)))), (2, .int (iZ (((r + 1) : Nat) : Int)))]) (st1 := []) (v_c0 (v_cI rfl (v_cI (by first | rfl | omega) rfl))) rfl ?_
        exact ih4 (r + 1) (upM ν (21 + r) 5 (mtl μ r)) (by omega) (by omega) (TB_s hT (by omega) rfl)
  refine v_sub [2, 1, 0] rfl ?_
  refine v_eq (lv1 := [(0, .ref (vAd X 0)), (1, .int (iZ (sm 0 (mtl μ)))), (2, .int (iZ ((0 : Nat) : Int)))]) (st1 := []) (v_c0 (v_cI (by first | rfl | omega) (v_cI (by first | rfl | omega) rfl))) rfl ?_
  exact L4 (9 - 0 + 1) 0 μ (by omega) (by omega) TB_0
theorem c_X7_tollByMargins (l : Launch) (hl : l.stackTraces = false) (D : va_G) (cy : Nat → ClassId) (ad : Nat → Nat) (μ : Mem) (hW : WF μ) (hL : PL μ 0) : cI l yX7_tollByMargins wsX7_tollByMargins ({ frames := 2, cells := 0, slots := 0, locals := 42 } : Room) D cy ad μ [.ref (ad 0)] (fun (z : Int) (ν : Mem) => z = sm (rc μ) (mtl μ) ∧ TB μ ν (rc μ)) :=
  m_int (av := (fun ad => [.ref (ad 0)])) hl (by decide) rfl rfl (Nat.le_of_ble_eq_true rfl) (fun _ _ _ => rfl) (fun X K hret => b_X7_tollByMargins hW hL K hret)
theorem dX7_draw_0 : decode cX7_draw 0 = .ok (.aload_n 0, 1) := by decide +kernel
theorem dX7_draw_1 : decode cX7_draw 1 = .ok (.aload_n 0, 1) := by decide +kernel
theorem dX7_draw_2 : decode cX7_draw 2 = .ok (.getfield 47, 3) := by decide +kernel
theorem dX7_draw_5 : decode cX7_draw 5 = .ok (.i2l, 1) := by decide +kernel
theorem dX7_draw_6 : decode cX7_draw 6 = .ok (.ldc2_w 390, 3) := by decide +kernel
theorem dX7_draw_9 : decode cX7_draw 9 = .ok (.lmul, 1) := by decide +kernel
theorem dX7_draw_10 : decode cX7_draw 10 = .ok (.ldc2_w 322, 3) := by decide +kernel
theorem dX7_draw_13 : decode cX7_draw 13 = .ok (.lrem, 1) := by decide +kernel
theorem dX7_draw_14 : decode cX7_draw 14 = .ok (.l2i, 1) := by decide +kernel
theorem dX7_draw_15 : decode cX7_draw 15 = .ok (.putfield 47, 3) := by decide +kernel
theorem dX7_draw_18 : decode cX7_draw 18 = .ok (.aload_n 0, 1) := by decide +kernel
theorem dX7_draw_19 : decode cX7_draw 19 = .ok (.getfield 47, 3) := by decide +kernel
theorem dX7_draw_22 : decode cX7_draw 22 = .ok (.ireturn, 1) := by decide +kernel
set_option maxHeartbeats 4000000 in
set_option maxRecDepth 100000 in
theorem b_X7_draw {X : VC} {μ : Mem} (hz : 0 ≤ μ 0 6 ∧ μ 0 6 ≤ 2147483646) (K : vK X cX7_draw 1 RX7 wsX7_draw ({ frames := 0, cells := 0, slots := 0, locals := 0 } : Room)) (hret : ∀ (z : Int) (ν : Mem), (fun (z : Int) (ν : Mem) => z = μ 0 6 * 48271 % 2147483647 ∧ ν = upM μ 0 6 (μ 0 6 * 48271 % 2147483647)) z ν → ∀ n pc k1 k2 lv, k1 ≤ 0 → k2 ≤ 0 → decode cX7_draw pc = .ok (.ireturn, 1) → vW X n pc k1 k2 lv [.int (iZ z)] ν) : vW X 1 0 0 0 [(0, .ref (vAd X 0))] [] μ := by
  refine v_aload_n 0 K dX7_draw_0 rfl ?_
  refine v_aload_n 0 K dX7_draw_1 rfl ?_
  refine v_get (c := 0) (k := 6) (C := RX7) (T := TX7) (N := 7) (v := .int (iZ (μ 0 6))) K isO_SJ rfl (fun _ h => (List.mem_cons_of_mem _ (List.mem_append_right _ h))) (by decide) (List.mem_cons_of_mem _ (List.mem_append_left _ (List.mem_of_getElem? (i := 0) rfl))) rfl dX7_draw_2 rfl ?_
  refine v_i2l (by omega) K dX7_draw_5 ?_
  refine v_ldc2 (v := 48271) (n := 48271) K (List.mem_cons_of_mem _ (List.mem_append_left _ (List.mem_of_getElem? (i := 1) rfl))) dX7_draw_6 (by decide) ?_
  refine v_lmul K dX7_draw_9 ?_
  refine v_ldc2 (v := 2147483647) (n := 2147483647) K (List.mem_cons_of_mem _ (List.mem_append_left _ (List.mem_of_getElem? (i := 2) rfl))) dX7_draw_10 (by decide) ?_
  refine v_lrem (by omega) (by omega) K dX7_draw_13 ?_
  refine v_l2i K dX7_draw_14 ?_
  refine v_put (c := 0) (k := 6) (C := RX7) (T := TX7) (N := 7) (ty := .int) K isO_SJ rfl (fun _ h => (List.mem_cons_of_mem _ (List.mem_append_right _ h))) tyX7_ok nmX7 (by decide) (List.mem_cons_of_mem _ (List.mem_append_left _ (List.mem_of_getElem? (i := 0) rfl))) rfl rfl (by decide +kernel) dX7_draw_15 (fun _ _ _ => rfl) (fun _ _ => Nat.le_of_ble_eq_true rfl) rfl rfl ?_
  refine v_aload_n 0 K dX7_draw_18 rfl ?_
  refine v_get (c := 0) (k := 6) (C := RX7) (T := TX7) (N := 7) (v := .int (iZ ((upM μ 0 6 (((μ 0 6) * 48271) % 2147483647)) 0 6))) K isO_SJ rfl (fun _ h => (List.mem_cons_of_mem _ (List.mem_append_right _ h))) (by decide) (List.mem_cons_of_mem _ (List.mem_append_left _ (List.mem_of_getElem? (i := 0) rfl))) rfl dX7_draw_19 rfl ?_
  refine v_top (b := (μ 0 6 * 48271 % 2147483647)) (by rw [upM_self]) ?_
  exact hret _ _ ⟨rfl, rfl⟩ _ _ _ _ _ (Nat.le_of_ble_eq_true rfl) (Nat.le_of_ble_eq_true rfl) dX7_draw_22
theorem c_X7_draw (l : Launch) (hl : l.stackTraces = false) (D : va_G) (cy : Nat → ClassId) (ad : Nat → Nat) (μ : Mem) (hz : 0 ≤ μ 0 6 ∧ μ 0 6 ≤ 2147483646) : cI l yX7_draw wsX7_draw ({ frames := 0, cells := 0, slots := 0, locals := 0 } : Room) D cy ad μ [.ref (ad 0)] (fun (z : Int) (ν : Mem) => z = μ 0 6 * 48271 % 2147483647 ∧ ν = upM μ 0 6 (μ 0 6 * 48271 % 2147483647)) :=
  m_int (av := (fun ad => [.ref (ad 0)])) hl (by decide) rfl rfl (Nat.le_of_ble_eq_true rfl) (fun _ _ _ => rfl) (fun X K hret => b_X7_draw hz K hret)
theorem dX7_nextToChange_0 : decode cX7_nextToChange 0 = .ok (.iload_n 1, 1) := by decide +kernel
theorem dX7_nextToChange_1 : decode cX7_nextToChange 1 = .ok (.bipush 103, 2) := by decide +kernel
theorem dX7_nextToChange_3 : decode cX7_nextToChange 3 = .ok (.if_icmp .ne 15, 3) := by decide +kernel
theorem dX7_nextToChange_18 : decode cX7_nextToChange 18 = .ok (.iload_n 1, 1) := by decide +kernel
theorem dX7_nextToChange_19 : decode cX7_nextToChange 19 = .ok (.bipush 114, 2) := by decide +kernel
theorem dX7_nextToChange_21 : decode cX7_nextToChange 21 = .ok (.if_icmp .ne 18, 3) := by decide +kernel
theorem dX7_nextToChange_39 : decode cX7_nextToChange 39 = .ok (.aload_n 0, 1) := by decide +kernel
theorem dX7_nextToChange_40 : decode cX7_nextToChange 40 = .ok (.getfield 10, 3) := by decide +kernel
theorem dX7_nextToChange_43 : decode cX7_nextToChange 43 = .ok (.aload_n 0, 1) := by decide +kernel
theorem dX7_nextToChange_44 : decode cX7_nextToChange 44 = .ok (.getfield 19, 3) := by decide +kernel
theorem dX7_nextToChange_47 : decode cX7_nextToChange 47 = .ok (.invokevirtual 392, 3) := by decide +kernel
set_option maxRecDepth 20000 in
theorem ggX7_nextToChange_X0_countGainers : GoodIn wsX7_nextToChange wsX0_countGainers := goodIn_ca (goodIn_r _ [71, 8, 9, 10, 11, 6, 12, 13, 14, 15, 16, 17, 18, 19, 20, 21, 22, 23, 24, 25, 26, 27, 28, 29, 30, 31, 32, 33, 34, 35, 36, 37, 38, 39, 40, 41, 42, 43, 44, 45, 46, 47, 48, 49, 50, 51, 52, 53, 54, 55, 56, 57, 58, 59, 90, 91, 92, 93, 94, 95, 96, 97, 98, 99, 100, 101, 102, 103, 104, 105, 106, 107, 108, 109] (by decide +kernel) (by decide +kernel)) (goodIn_sub (fun _ h => List.mem_cons_of_mem _ (List.mem_append_right _ h)) (by decide +kernel))
set_option maxRecDepth 20000 in
theorem gX7_nextToChange_X0_countGainers : GoodIn wsX7_nextToChange (wsV RX7 392 RX0 yX0_countGainers wsX0_countGainers) := goodIn_app (goodIn_of _ (by decide +kernel)) ggX7_nextToChange_X0_countGainers
theorem dX7_nextToChange_50 : decode cX7_nextToChange 50 = .ok (.istore_n 3, 1) := by decide +kernel
theorem dX7_nextToChange_51 : decode cX7_nextToChange 51 = .ok (.iload_n 3, 1) := by decide +kernel
theorem dX7_nextToChange_52 : decode cX7_nextToChange 52 = .ok (.iconst 1, 1) := by decide +kernel
theorem dX7_nextToChange_53 : decode cX7_nextToChange 53 = .ok (.if_icmp .ge 7, 3) := by decide +kernel
theorem dX7_nextToChange_60 : decode cX7_nextToChange 60 = .ok (.aload_n 0, 1) := by decide +kernel
theorem dX7_nextToChange_61 : decode cX7_nextToChange 61 = .ok (.getfield 10, 3) := by decide +kernel
theorem dX7_nextToChange_64 : decode cX7_nextToChange 64 = .ok (.aload_n 0, 1) := by decide +kernel
theorem dX7_nextToChange_65 : decode cX7_nextToChange 65 = .ok (.getfield 19, 3) := by decide +kernel
theorem dX7_nextToChange_68 : decode cX7_nextToChange 68 = .ok (.aload_n 0, 1) := by decide +kernel
theorem dX7_nextToChange_69 : decode cX7_nextToChange 69 = .ok (.invokevirtual 395, 3) := by decide +kernel
set_option maxRecDepth 20000 in
theorem ggX7_nextToChange_X7_draw : GoodIn wsX7_nextToChange wsX7_draw := goodIn_r _ [75, 76, 77, 78, 83, 84, 85, 86, 87, 88, 89] (by decide +kernel) (by decide +kernel)
set_option maxRecDepth 20000 in
theorem gX7_nextToChange_X7_draw : GoodIn wsX7_nextToChange (wsV RX7 395 RX7 yX7_draw wsX7_draw) := goodIn_app (goodIn_of _ (by decide +kernel)) ggX7_nextToChange_X7_draw
theorem dX7_nextToChange_72 : decode cX7_nextToChange 72 = .ok (.iload_n 3, 1) := by decide +kernel
theorem dX7_nextToChange_73 : decode cX7_nextToChange 73 = .ok (.irem, 1) := by decide +kernel
theorem dX7_nextToChange_74 : decode cX7_nextToChange 74 = .ok (.invokevirtual 398, 3) := by decide +kernel
set_option maxRecDepth 20000 in
theorem ggX7_nextToChange_X0_gainerAt : GoodIn wsX7_nextToChange wsX0_gainerAt := goodIn_ca (goodIn_r _ [82, 8, 9, 10, 11, 6, 12, 13, 14, 15, 16, 17, 18, 19, 20, 21, 22, 23, 24, 25, 26, 27, 28, 29, 30, 31, 32, 33, 34, 35, 36, 37, 38, 39, 40, 41, 42, 43, 44, 45, 46, 47, 48, 49, 50, 51, 52, 53, 54, 55, 56, 57, 58, 59, 90, 91, 92, 93, 94, 95, 96, 97, 98, 99, 100, 101, 102, 103, 104, 105, 106, 107, 108, 109] (by decide +kernel) (by decide +kernel)) (goodIn_sub (fun _ h => List.mem_cons_of_mem _ (List.mem_append_right _ h)) (by decide +kernel))
set_option maxRecDepth 20000 in
theorem gX7_nextToChange_X0_gainerAt : GoodIn wsX7_nextToChange (wsV RX7 398 RX0 yX0_gainerAt wsX0_gainerAt) := goodIn_app (goodIn_of _ (by decide +kernel)) ggX7_nextToChange_X0_gainerAt
theorem dX7_nextToChange_77 : decode cX7_nextToChange 77 = .ok (.ireturn, 1) := by decide +kernel
theorem dX7_nextToChange_56 : decode cX7_nextToChange 56 = .ok (.iconst (-1), 1) := by decide +kernel
theorem dX7_nextToChange_57 : decode cX7_nextToChange 57 = .ok (.goto 20, 3) := by decide +kernel
theorem dX7_nextToChange_24 : decode cX7_nextToChange 24 = .ok (.aload_n 0, 1) := by decide +kernel
theorem dX7_nextToChange_25 : decode cX7_nextToChange 25 = .ok (.getfield 10, 3) := by decide +kernel
theorem dX7_nextToChange_28 : decode cX7_nextToChange 28 = .ok (.aload_n 0, 1) := by decide +kernel
theorem dX7_nextToChange_29 : decode cX7_nextToChange 29 = .ok (.getfield 19, 3) := by decide +kernel
theorem dX7_nextToChange_32 : decode cX7_nextToChange 32 = .ok (.iload_n 2, 1) := by decide +kernel
theorem dX7_nextToChange_33 : decode cX7_nextToChange 33 = .ok (.iconst 1, 1) := by decide +kernel
theorem dX7_nextToChange_34 : decode cX7_nextToChange 34 = .ok (.iadd, 1) := by decide +kernel
theorem dX7_nextToChange_35 : decode cX7_nextToChange 35 = .ok (.invokevirtual 236, 3) := by decide +kernel
set_option maxRecDepth 20000 in
theorem ggX7_nextToChange_X0_firstToGain : GoodIn wsX7_nextToChange wsX0_firstToGain := goodIn_ca (goodIn_r _ [63, 8, 64, 65, 66, 67, 9, 10, 11, 6, 12, 13, 14, 15, 16, 17, 18, 19, 20, 21, 22, 23, 24, 25, 26, 27, 28, 29, 30, 31, 32, 33, 34, 35, 36, 37, 38, 39, 40, 41, 42, 43, 44, 45, 46, 47, 48, 49, 50, 51, 52, 53, 54, 55, 56, 57, 58, 59, 90, 91, 92, 93, 94, 95, 96, 97, 98, 99, 100, 101, 102, 103, 104, 105, 106, 107, 108, 109] (by decide +kernel) (by decide +kernel)) (goodIn_sub (fun _ h => List.mem_cons_of_mem _ (List.mem_append_right _ h)) (by decide +kernel))
set_option maxRecDepth 20000 in
theorem gX7_nextToChange_X0_firstToGain : GoodIn wsX7_nextToChange (wsV RX7 236 RX0 yX0_firstToGain wsX0_firstToGain) := goodIn_app (goodIn_of _ (by decide +kernel)) ggX7_nextToChange_X0_firstToGain
theorem dX7_nextToChange_38 : decode cX7_nextToChange 38 = .ok (.ireturn, 1) := by decide +kernel
theorem dX7_nextToChange_6 : decode cX7_nextToChange 6 = .ok (.aload_n 0, 1) := by decide +kernel
theorem dX7_nextToChange_7 : decode cX7_nextToChange 7 = .ok (.getfield 10, 3) := by decide +kernel
theorem dX7_nextToChange_10 : decode cX7_nextToChange 10 = .ok (.aload_n 0, 1) := by decide +kernel
theorem dX7_nextToChange_11 : decode cX7_nextToChange 11 = .ok (.getfield 19, 3) := by decide +kernel
theorem dX7_nextToChange_14 : decode cX7_nextToChange 14 = .ok (.invokevirtual 239, 3) := by decide +kernel
set_option maxRecDepth 20000 in
theorem ggX7_nextToChange_X0_mostToGain : GoodIn wsX7_nextToChange wsX0_mostToGain := goodIn_ca (goodIn_r _ [7, 8, 9, 10, 11, 6, 12, 13, 14, 15, 16, 17, 18, 19, 20, 21, 22, 23, 24, 25, 26, 27, 28, 29, 30, 31, 32, 33, 34, 35, 36, 37, 38, 39, 40, 41, 42, 43, 44, 45, 46, 47, 48, 49, 50, 51, 52, 53, 54, 55, 56, 57, 58, 59, 90, 91, 92, 93, 94, 95, 96, 97, 98, 99, 100, 101, 102, 103, 104, 105, 106, 107, 108, 109] (by decide +kernel) (by decide +kernel)) (goodIn_sub (fun _ h => List.mem_cons_of_mem _ (List.mem_append_right _ h)) (by decide +kernel))
set_option maxRecDepth 20000 in
theorem gX7_nextToChange_X0_mostToGain : GoodIn wsX7_nextToChange (wsV RX7 239 RX0 yX0_mostToGain wsX0_mostToGain) := goodIn_app (goodIn_of _ (by decide +kernel)) ggX7_nextToChange_X0_mostToGain
theorem dX7_nextToChange_17 : decode cX7_nextToChange 17 = .ok (.ireturn, 1) := by decide +kernel
set_option maxHeartbeats 4000000 in
set_option maxRecDepth 100000 in
theorem b_X7_nextToChange {X : VC} {μ : Mem} (k : Int) (la : Int) (hk : k = 103 ∨ k = 114 ∨ k = 122) (hla : -1 ≤ la ∧ la ≤ 50) (hW : WF μ) (hL : PL μ 0) (hz : 0 ≤ μ 0 6 ∧ μ 0 6 ≤ 2147483646) (K : vK X cX7_nextToChange 4 RX7 wsX7_nextToChange ({ frames := 5, cells := 0, slots := 0, locals := 123 } : Room)) (hret : ∀ (z : Int) (ν : Mem), (fun (z : Int) (ν : Mem) => NX μ ν k la z) z ν → ∀ n pc k1 k2 lv, k1 ≤ 0 → k2 ≤ 0 → decode cX7_nextToChange pc = .ok (.ireturn, 1) → vW X n pc k1 k2 lv [.int (iZ z)] ν) : vW X 4 0 0 0 [(0, .ref (vAd X 0)), (1, .int (iZ k)), (2, .int (iZ la))] [] μ := by
  have hB := hL.PB9 hW
  have hpc := hW.pc6
  have hcg := cgF_rng μ 0 (pcn μ)
  refine v_iload_n 1 K dX7_nextToChange_0 rfl ?_
  refine v_bipush K dX7_nextToChange_1 (by decide) ?_
  refine v_icmp_ne 18 K dX7_nextToChange_3 (by decide) (by omega) (by decide) (fun c3 => ?_) (fun c3 => ?_)
  · refine v_iload_n 1 K dX7_nextToChange_18 rfl ?_
    refine v_bipush K dX7_nextToChange_19 (by decide) ?_
    refine v_icmp_ne 39 K dX7_nextToChange_21 (by decide) (by omega) (by decide) (fun c21 => ?_) (fun c21 => ?_)
    · refine v_aload_n 0 K dX7_nextToChange_39 rfl ?_
      refine v_get (c := 0) (k := 0) (C := RX7) (T := TX7) (N := 7) (v := .ref (vAd X 1)) K isO_SJ rfl (fun _ h => (List.mem_cons_of_mem _ (List.mem_append_left _ (List.mem_append_left _ (List.mem_append_left _ (List.mem_append_left _ (List.mem_append_left _ (List.mem_append_right _ h)))))))) (by decide) (List.mem_cons_of_mem _ (List.mem_append_left _ (List.mem_append_left _ (List.mem_append_left _ (List.mem_append_left _ (List.mem_append_left _ (List.mem_append_left _ (List.mem_append_left _ (List.mem_of_getElem? (i := 0) rfl))))))))) rfl dX7_nextToChange_40 rfl ?_
      refine v_aload_n 0 K dX7_nextToChange_43 rfl ?_
      refine v_get (c := 0) (k := 1) (C := RX7) (T := TX7) (N := 7) (v := .ref (vAd X (2 + 0))) K isO_SJ rfl (fun _ h => (List.mem_cons_of_mem _ (List.mem_append_left _ (List.mem_append_left _ (List.mem_append_left _ (List.mem_append_left _ (List.mem_append_left _ (List.mem_append_right _ h)))))))) (by decide) (List.mem_cons_of_mem _ (List.mem_append_left _ (List.mem_append_left _ (List.mem_append_left _ (List.mem_append_left _ (List.mem_append_left _ (List.mem_append_left _ (List.mem_append_left _ (List.mem_of_getElem? (i := 1) rfl))))))))) rfl dX7_nextToChange_44 rfl ?_
      refine v_callVir (c := 1) (As := [.ref (vAd X (2 + 0))]) (rest := []) K isO_Bd rfl 1 (c_X0_countGainers X.1.2.1 K.2.2.2.2.2.2 _ _ _ μ 0 (by omega) hW (by omega)) gX7_nextToChange_X0_countGainers rfl rfl rfl (by decide +kernel) ⟨(Nat.le_of_ble_eq_true rfl), (Nat.le_of_ble_eq_true rfl)⟩ rfl rfl (Nat.le_of_ble_eq_true rfl) dX7_nextToChange_47 ⟨(Nat.le_of_ble_eq_true rfl), (Nat.le_of_ble_eq_true rfl)⟩ ?_
      refine v_istore_n [(3, .int (iZ (cgF μ 0 (pcn μ)))), (0, .ref (vAd X 0)), (1, .int (iZ k)), (2, .int (iZ la))] K dX7_nextToChange_50 (by decide) rfl ?_
      refine v_iload_n 0 K dX7_nextToChange_51 rfl ?_
      refine v_iconst K dX7_nextToChange_52 ?_
      refine v_icmp_ge 60 K dX7_nextToChange_53 (by decide) (by omega) (by decide) (fun c53 => ?_) (fun c53 => ?_)
      · refine v_aload_n 1 K dX7_nextToChange_60 rfl ?_
        refine v_get (c := 0) (k := 0) (C := RX7) (T := TX7) (N := 7) (v := .ref (vAd X 1)) K isO_SJ rfl (fun _ h => (List.mem_cons_of_mem _ (List.mem_append_left _ (List.mem_append_left _ (List.mem_append_left _ (List.mem_append_left _ (List.mem_append_left _ (List.mem_append_right _ h)))))))) (by decide) (List.mem_cons_of_mem _ (List.mem_append_left _ (List.mem_append_left _ (List.mem_append_left _ (List.mem_append_left _ (List.mem_append_left _ (List.mem_append_left _ (List.mem_append_left _ (List.mem_of_getElem? (i := 0) rfl))))))))) rfl dX7_nextToChange_61 rfl ?_
        refine v_aload_n 1 K dX7_nextToChange_64 rfl ?_
        refine v_get (c := 0) (k := 1) (C := RX7) (T := TX7) (N := 7) (v := .ref (vAd X (2 + 0))) K isO_SJ rfl (fun _ h => (List.mem_cons_of_mem _ (List.mem_append_left _ (List.mem_append_left _ (List.mem_append_left _ (List.mem_append_left _ (List.mem_append_left _ (List.mem_append_right _ h)))))))) (by decide) (List.mem_cons_of_mem _ (List.mem_append_left _ (List.mem_append_left _ (List.mem_append_left _ (List.mem_append_left _ (List.mem_append_left _ (List.mem_append_left _ (List.mem_append_left _ (List.mem_of_getElem? (i := 1) rfl))))))))) rfl dX7_nextToChange_65 rfl ?_
        refine v_aload_n 1 K dX7_nextToChange_68 rfl ?_
        refine v_callVi (c := 0) (As := []) (rest := [.ref (vAd X (2 + 0)), .ref (vAd X 1)]) K isO_SJ rfl 0 (c_X7_draw X.1.2.1 K.2.2.2.2.2.2 _ _ _ μ hz) gX7_nextToChange_X7_draw rfl rfl rfl (by decide +kernel) ⟨(Nat.le_of_ble_eq_true rfl), (Nat.le_of_ble_eq_true rfl)⟩ rfl rfl (Nat.le_of_ble_eq_true rfl) dX7_nextToChange_69 ⟨(Nat.le_of_ble_eq_true rfl), (Nat.le_of_ble_eq_true rfl)⟩ (fun d ν q69 => ?_)
        obtain ⟨hd1, hd2⟩ := q69
        have hm1 := Int.emod_nonneg d (show cgF μ 0 (pcn μ) ≠ 0 by omega)
        have hm2 := Int.emod_lt_of_pos d (show 0 < cgF μ 0 (pcn μ) by omega)
        have hWν : WF ν := by rw [hd2]; exact WF_z hW
        have hBν : PB ν 0 := by rw [hd2]; exact (PL_z hL).PB9 (WF_z hW)
        refine v_iload_n 0 K dX7_nextToChange_72 rfl ?_
        refine v_irem (by omega) (by omega) K dX7_nextToChange_73 ?_
        refine v_callVis (c := 1) (As := [.ref (vAd X (2 + 0)), .int (iZ (d % (cgF μ 0 (pcn μ))))]) (rest := []) K isO_Bd rfl 2 (c_X0_gainerAt X.1.2.1 K.2.2.2.2.2.2 _ _ _ ν 0 (d % (cgF μ 0 (pcn μ))) (by omega) hWν hBν (by omega)) gX7_nextToChange_X0_gainerAt rfl rfl rfl (by decide +kernel) ⟨(Nat.le_of_ble_eq_true rfl), (Nat.le_of_ble_eq_true rfl)⟩ rfl rfl (Nat.le_of_ble_eq_true rfl) dX7_nextToChange_74 ⟨(Nat.le_of_ble_eq_true rfl), (Nat.le_of_ble_eq_true rfl)⟩ (fun z74 q74 => ?_)
        exact hret _ _ (Or.inr (Or.inr ⟨(by omega), Or.inr ⟨(by omega), (by rw [hd2]), (by rw [← hd1]; rw [hd2] at q74; exact GA_up q74)⟩⟩)) _ _ _ _ _ (Nat.le_of_ble_eq_true rfl) (Nat.le_of_ble_eq_true rfl) dX7_nextToChange_77
      · refine v_iconst K dX7_nextToChange_56 ?_
        refine v_goto 77 K dX7_nextToChange_57 (by decide) ?_
        exact hret _ _ (Or.inr (Or.inr ⟨(by omega), Or.inl ⟨(by omega), rfl, rfl⟩⟩)) _ _ _ _ _ (Nat.le_of_ble_eq_true rfl) (Nat.le_of_ble_eq_true rfl) dX7_nextToChange_77
    · refine v_aload_n 0 K dX7_nextToChange_24 rfl ?_
      refine v_get (c := 0) (k := 0) (C := RX7) (T := TX7) (N := 7) (v := .ref (vAd X 1)) K isO_SJ rfl (fun _ h => (List.mem_cons_of_mem _ (List.mem_append_left _ (List.mem_append_left _ (List.mem_append_left _ (List.mem_append_left _ (List.mem_append_left _ (List.mem_append_right _ h)))))))) (by decide) (List.mem_cons_of_mem _ (List.mem_append_left _ (List.mem_append_left _ (List.mem_append_left _ (List.mem_append_left _ (List.mem_append_left _ (List.mem_append_left _ (List.mem_append_left _ (List.mem_of_getElem? (i := 0) rfl))))))))) rfl dX7_nextToChange_25 rfl ?_
      refine v_aload_n 0 K dX7_nextToChange_28 rfl ?_
      refine v_get (c := 0) (k := 1) (C := RX7) (T := TX7) (N := 7) (v := .ref (vAd X (2 + 0))) K isO_SJ rfl (fun _ h => (List.mem_cons_of_mem _ (List.mem_append_left _ (List.mem_append_left _ (List.mem_append_left _ (List.mem_append_left _ (List.mem_append_left _ (List.mem_append_right _ h)))))))) (by decide) (List.mem_cons_of_mem _ (List.mem_append_left _ (List.mem_append_left _ (List.mem_append_left _ (List.mem_append_left _ (List.mem_append_left _ (List.mem_append_left _ (List.mem_append_left _ (List.mem_of_getElem? (i := 1) rfl))))))))) rfl dX7_nextToChange_29 rfl ?_
      refine v_iload_n 2 K dX7_nextToChange_32 rfl ?_
      refine v_iconst K dX7_nextToChange_33 ?_
      refine v_iadd K dX7_nextToChange_34 ?_
      refine v_eq (lv1 := [(0, .ref (vAd X 0)), (1, .int (iZ k)), (2, .int (iZ la))]) (st1 := [.int (iZ ((((la + 1).toNat) : Nat) : Int)), .ref (vAd X (2 + 0)), .ref (vAd X 1)]) rfl (v_sI (by omega) (v_s0 (v_s0 rfl))) ?_
      refine v_callVis (c := 1) (As := [.ref (vAd X (2 + 0)), .int (iZ ((((la + 1).toNat) : Nat) : Int))]) (rest := []) K isO_Bd rfl 2 (c_X0_firstToGain X.1.2.1 K.2.2.2.2.2.2 _ _ _ μ 0 ((la + 1).toNat) (by omega) (by omega) hW (by omega)) gX7_nextToChange_X0_firstToGain rfl rfl rfl (by decide +kernel) ⟨(Nat.le_of_ble_eq_true rfl), (Nat.le_of_ble_eq_true rfl)⟩ rfl rfl (Nat.le_of_ble_eq_true rfl) dX7_nextToChange_35 ⟨(Nat.le_of_ble_eq_true rfl), (Nat.le_of_ble_eq_true rfl)⟩ (fun z35 q35 => ?_)
      exact hret _ _ (Or.inr (Or.inl ⟨(by omega), rfl, q35⟩)) _ _ _ _ _ (Nat.le_of_ble_eq_true rfl) (Nat.le_of_ble_eq_true rfl) dX7_nextToChange_38
  · refine v_aload_n 0 K dX7_nextToChange_6 rfl ?_
    refine v_get (c := 0) (k := 0) (C := RX7) (T := TX7) (N := 7) (v := .ref (vAd X 1)) K isO_SJ rfl (fun _ h => (List.mem_cons_of_mem _ (List.mem_append_left _ (List.mem_append_left _ (List.mem_append_left _ (List.mem_append_left _ (List.mem_append_left _ (List.mem_append_right _ h)))))))) (by decide) (List.mem_cons_of_mem _ (List.mem_append_left _ (List.mem_append_left _ (List.mem_append_left _ (List.mem_append_left _ (List.mem_append_left _ (List.mem_append_left _ (List.mem_append_left _ (List.mem_of_getElem? (i := 0) rfl))))))))) rfl dX7_nextToChange_7 rfl ?_
    refine v_aload_n 0 K dX7_nextToChange_10 rfl ?_
    refine v_get (c := 0) (k := 1) (C := RX7) (T := TX7) (N := 7) (v := .ref (vAd X (2 + 0))) K isO_SJ rfl (fun _ h => (List.mem_cons_of_mem _ (List.mem_append_left _ (List.mem_append_left _ (List.mem_append_left _ (List.mem_append_left _ (List.mem_append_left _ (List.mem_append_right _ h)))))))) (by decide) (List.mem_cons_of_mem _ (List.mem_append_left _ (List.mem_append_left _ (List.mem_append_left _ (List.mem_append_left _ (List.mem_append_left _ (List.mem_append_left _ (List.mem_append_left _ (List.mem_of_getElem? (i := 1) rfl))))))))) rfl dX7_nextToChange_11 rfl ?_
    refine v_callVir (c := 1) (As := [.ref (vAd X (2 + 0))]) (rest := []) K isO_Bd rfl 1 (c_X0_mostToGain X.1.2.1 K.2.2.2.2.2.2 _ _ _ μ 0 (by omega) hW (by omega)) gX7_nextToChange_X0_mostToGain rfl rfl rfl (by decide +kernel) ⟨(Nat.le_of_ble_eq_true rfl), (Nat.le_of_ble_eq_true rfl)⟩ rfl rfl (Nat.le_of_ble_eq_true rfl) dX7_nextToChange_14 ⟨(Nat.le_of_ble_eq_true rfl), (Nat.le_of_ble_eq_true rfl)⟩ ?_
    exact hret _ _ (Or.inl ⟨(by omega), rfl, rfl⟩) _ _ _ _ _ (Nat.le_of_ble_eq_true rfl) (Nat.le_of_ble_eq_true rfl) dX7_nextToChange_17
theorem c_X7_nextToChange (l : Launch) (hl : l.stackTraces = false) (D : va_G) (cy : Nat → ClassId) (ad : Nat → Nat) (μ : Mem) (k : Int) (la : Int) (hk : k = 103 ∨ k = 114 ∨ k = 122) (hla : -1 ≤ la ∧ la ≤ 50) (hW : WF μ) (hL : PL μ 0) (hz : 0 ≤ μ 0 6 ∧ μ 0 6 ≤ 2147483646) : cI l yX7_nextToChange wsX7_nextToChange ({ frames := 5, cells := 0, slots := 0, locals := 123 } : Room) D cy ad μ [.ref (ad 0), .int (iZ k), .int (iZ la)] (fun (z : Int) (ν : Mem) => NX μ ν k la z) :=
  m_int (av := (fun ad => [.ref (ad 0), .int (iZ k), .int (iZ la)])) hl (by decide) rfl rfl (Nat.le_of_ble_eq_true rfl) (fun _ _ _ => rfl) (fun X K hret => b_X7_nextToChange k la hk hla hW hL hz K hret)
theorem dX7_run_28 : decode cX7_run 28 = .ok (.aload_n 0, 1) := by decide +kernel
theorem dX7_run_29 : decode cX7_run 29 = .ok (.iload_n 2, 1) := by decide +kernel
theorem dX7_run_30 : decode cX7_run 30 = .ok (.iconst 1, 1) := by decide +kernel
theorem dX7_run_31 : decode cX7_run 31 = .ok (.sipush 200, 3) := by decide +kernel
theorem dX7_run_34 : decode cX7_run 34 = .ok (.invokevirtual 174, 3) := by decide +kernel
set_option maxRecDepth 20000 in
theorem ggX7_run_X7_checkRange : GoodIn wsX7_run wsX7_checkRange := goodIn_ca (goodIn_r _ [9, 1, 2] (by decide +kernel) (by decide +kernel)) (goodIn_sub (fun _ h => List.mem_cons_of_mem _ (List.mem_append_left _ (List.mem_append_right _ h))) (by decide +kernel))
set_option maxRecDepth 20000 in
theorem gX7_run_X7_checkRange : GoodIn wsX7_run (wsV RX7 174 RX7 yX7_checkRange wsX7_checkRange) := goodIn_app (goodIn_of _ (by decide +kernel)) ggX7_run_X7_checkRange
theorem dX7_run_37 : decode cX7_run 37 = .ok (.iconst (-1), 1) := by decide +kernel
theorem dX7_run_38 : decode cX7_run 38 = .ok (.istore_n 3, 1) := by decide +kernel
theorem dX7_run_39 : decode cX7_run 39 = .ok (.iconst 0, 1) := by decide +kernel
theorem dX7_run_40 : decode cX7_run 40 = .ok (.istore 4, 2) := by decide +kernel
theorem dX7_run_42 : decode cX7_run 42 = .ok (.iload 4, 2) := by decide +kernel
theorem dX7_run_44 : decode cX7_run 44 = .ok (.iload_n 2, 1) := by decide +kernel
theorem dX7_run_45 : decode cX7_run 45 = .ok (.if_icmp .ge 47, 3) := by decide +kernel
theorem dX7_run_92 : decode cX7_run 92 = .ok (.iload_n 2, 1) := by decide +kernel
theorem dX7_run_93 : decode cX7_run 93 = .ok (.ireturn, 1) := by decide +kernel
theorem dX7_run_48 : decode cX7_run 48 = .ok (.aload_n 0, 1) := by decide +kernel
theorem dX7_run_49 : decode cX7_run 49 = .ok (.iload_n 1, 1) := by decide +kernel
theorem dX7_run_50 : decode cX7_run 50 = .ok (.iload_n 3, 1) := by decide +kernel
theorem dX7_run_51 : decode cX7_run 51 = .ok (.invokevirtual 244, 3) := by decide +kernel
set_option maxRecDepth 20000 in
theorem ggX7_run_X7_nextToChange : GoodIn wsX7_run wsX7_nextToChange := goodIn_ca (goodIn_r _ [13, 3, 4, 14, 15, 16, 17, 18, 19, 20, 21, 22, 23, 24, 25, 26, 27, 28, 29, 30, 31, 32, 33, 34, 35, 36, 37, 38, 39, 40, 41, 42, 43, 44, 45, 46, 47, 48, 49, 50, 51, 52, 8, 53, 54, 55, 56, 57, 58, 59, 60, 61, 62, 63, 64, 65, 66, 67, 68, 69, 70, 71, 72, 73, 74, 75, 76, 77, 78, 79, 80, 81, 82, 83, 84, 85, 86, 87, 88, 89, 90, 91, 92, 98, 99, 100, 101, 102, 103, 104, 105, 106, 107, 108, 109, 110, 111, 112, 113, 114, 115, 116, 117, 118, 119, 120, 121, 122, 123, 124] (by decide +kernel) (by decide +kernel)) (goodIn_sub (fun _ h => List.mem_cons_of_mem _ (List.mem_append_right _ h)) (by decide +kernel))
set_option maxRecDepth 20000 in
theorem gX7_run_X7_nextToChange : GoodIn wsX7_run (wsV RX7 244 RX7 yX7_nextToChange wsX7_nextToChange) := goodIn_app (goodIn_of _ (by decide +kernel)) ggX7_run_X7_nextToChange
theorem dX7_run_54 : decode cX7_run 54 = .ok (.istore_n 3, 1) := by decide +kernel
theorem dX7_run_55 : decode cX7_run 55 = .ok (.iload_n 3, 1) := by decide +kernel
theorem dX7_run_56 : decode cX7_run 56 = .ok (.ifCond .ge 6, 3) := by decide +kernel
theorem dX7_run_62 : decode cX7_run 62 = .ok (.aload_n 0, 1) := by decide +kernel
theorem dX7_run_63 : decode cX7_run 63 = .ok (.getfield 10, 3) := by decide +kernel
theorem dX7_run_66 : decode cX7_run 66 = .ok (.aload_n 0, 1) := by decide +kernel
theorem dX7_run_67 : decode cX7_run 67 = .ok (.getfield 19, 3) := by decide +kernel
theorem dX7_run_70 : decode cX7_run 70 = .ok (.iload_n 3, 1) := by decide +kernel
theorem dX7_run_71 : decode cX7_run 71 = .ok (.aload_n 0, 1) := by decide +kernel
theorem dX7_run_72 : decode cX7_run 72 = .ok (.getfield 10, 3) := by decide +kernel
theorem dX7_run_75 : decode cX7_run 75 = .ok (.aload_n 0, 1) := by decide +kernel
theorem dX7_run_76 : decode cX7_run 76 = .ok (.getfield 19, 3) := by decide +kernel
theorem dX7_run_79 : decode cX7_run 79 = .ok (.iload_n 3, 1) := by decide +kernel
theorem dX7_run_80 : decode cX7_run 80 = .ok (.invokevirtual 225, 3) := by decide +kernel
set_option maxRecDepth 20000 in
theorem ggX7_run_X0_bestOf : GoodIn wsX7_run wsX0_bestOf := goodIn_ca (goodIn_r _ [63, 30, 28, 64, 35, 36, 37, 17, 38, 39, 40, 41, 42, 43, 44, 45, 46, 47, 48, 49, 50, 51, 52, 8, 53, 54, 55, 56, 57, 58, 59, 65, 66, 67, 68, 69, 115, 116, 117, 105, 106, 107, 108, 109, 110, 111, 112, 113, 114, 118, 119, 120, 121, 122, 123, 124] (by decide +kernel) (by decide +kernel)) (goodIn_sub (fun _ h => List.mem_cons_of_mem _ (List.mem_append_right _ h)) (by decide +kernel))
set_option maxRecDepth 20000 in
theorem gX7_run_X0_bestOf : GoodIn wsX7_run (wsV RX7 225 RX0 yX0_bestOf wsX0_bestOf) := goodIn_app (goodIn_of _ (by decide +kernel)) ggX7_run_X0_bestOf
theorem dX7_run_83 : decode cX7_run 83 = .ok (.invokevirtual 164, 3) := by decide +kernel
set_option maxRecDepth 20000 in
theorem ggX7_run_X0_take : GoodIn wsX7_run wsX0_take := goodIn_ca (goodIn_r _ [97, 28, 30, 39, 40, 41, 45, 46, 47, 48, 49, 50, 51, 52, 8, 53, 105, 106, 107, 108, 115, 116, 117, 109, 110, 111, 112, 113, 114] (by decide +kernel) (by decide +kernel)) (goodIn_sub (fun _ h => List.mem_cons_of_mem _ (List.mem_append_right _ h)) (by decide +kernel))
set_option maxRecDepth 20000 in
theorem gX7_run_X0_take : GoodIn wsX7_run (wsV RX7 164 RX0 yX0_take wsX0_take) := goodIn_app (goodIn_of _ (by decide +kernel)) ggX7_run_X0_take
theorem dX7_run_86 : decode cX7_run 86 = .ok (.iinc 4 1, 3) := by decide +kernel
theorem dX7_run_89 : decode cX7_run 89 = .ok (.goto (-47), 3) := by decide +kernel
theorem dX7_run_59 : decode cX7_run 59 = .ok (.iload 4, 2) := by decide +kernel
theorem dX7_run_61 : decode cX7_run 61 = .ok (.ireturn, 1) := by decide +kernel
theorem dX7_run_0 : decode cX7_run 0 = .ok (.iload_n 1, 1) := by decide +kernel
theorem dX7_run_1 : decode cX7_run 1 = .ok (.bipush 114, 2) := by decide +kernel
theorem dX7_run_3 : decode cX7_run 3 = .ok (.if_icmp .eq 25, 3) := by decide +kernel
theorem dX7_run_6 : decode cX7_run 6 = .ok (.iload_n 1, 1) := by decide +kernel
theorem dX7_run_7 : decode cX7_run 7 = .ok (.bipush 103, 2) := by decide +kernel
theorem dX7_run_9 : decode cX7_run 9 = .ok (.if_icmp .eq 19, 3) := by decide +kernel
theorem dX7_run_12 : decode cX7_run 12 = .ok (.iload_n 1, 1) := by decide +kernel
theorem dX7_run_13 : decode cX7_run 13 = .ok (.bipush 122, 2) := by decide +kernel
theorem dX7_run_15 : decode cX7_run 15 = .ok (.if_icmp .eq 13, 3) := by decide +kernel
set_option maxHeartbeats 4000000 in
set_option maxRecDepth 100000 in
theorem b_X7_run {X : VC} {μ : Mem} (k : Int) (m : Int) (hk : k = 103 ∨ k = 114 ∨ k = 122) (hm : 1 ≤ m ∧ m ≤ 200) (hW : WF μ) (hL : PL μ 0) (hz : zOK μ) (K : vK X cX7_run 5 RX7 wsX7_run ({ frames := 6, cells := 0, slots := 0, locals := 146 } : Room)) (hret : ∀ (z : Int) (ν : Mem), (fun (z : Int) (ν : Mem) => RUN μ ν k m z) z ν → ∀ n pc k1 k2 lv, k1 ≤ 0 → k2 ≤ 0 → decode cX7_run pc = .ok (.ireturn, 1) → vW X n pc k1 k2 lv [.int (iZ z)] ν) : vW X 5 0 0 0 [(0, .ref (vAd X 0)), (1, .int (iZ k)), (2, .int (iZ m))] [] μ := by
  have L28 : vW X 5 28 0 0 [(0, .ref (vAd X 0)), (1, .int (iZ k)), (2, .int (iZ m))] [] μ := by
    refine v_aload_n 0 K dX7_run_28 rfl ?_
    refine v_iload_n 2 K dX7_run_29 rfl ?_
    refine v_iconst K dX7_run_30 ?_
    refine v_sipush K dX7_run_31 (by decide) ?_
    refine v_callVvr (c := 0) (As := [.int (iZ m), .int (iZ 1), .int (iZ 200)]) (rest := []) K isO_SJ rfl 3 (c_X7_checkRange X.1.2.1 K.2.2.2.2.2.2 _ _ _ μ m 1 200 hm (by omega)) gX7_run_X7_checkRange rfl rfl rfl (by decide +kernel) ⟨(Nat.le_of_ble_eq_true rfl), (Nat.le_of_ble_eq_true rfl)⟩ rfl rfl (Nat.le_of_ble_eq_true rfl) dX7_run_34 ⟨(Nat.le_of_ble_eq_true rfl), (Nat.le_of_ble_eq_true rfl)⟩ ?_
    refine v_iconst K dX7_run_37 ?_
    refine v_istore_n [(3, .int (iZ (-1))), (0, .ref (vAd X 0)), (1, .int (iZ k)), (2, .int (iZ m))] K dX7_run_38 (by decide) rfl ?_
    refine v_iconst K dX7_run_39 ?_
    refine v_istore [(4, .int (iZ 0)), (3, .int (iZ (-1))), (0, .ref (vAd X 0)), (1, .int (iZ k)), (2, .int (iZ m))] K dX7_run_40 (by decide) rfl ?_
    have L42 : ∀ (fuel : Nat) (n : Nat) (l : Int) (ξ : Mem) (hm : 201 - n < fuel) (hn : (n : Int) ≤ m) (hR : RS k n μ l ξ), vW X 5 42 0 0 [(0, .ref (vAd X 0)), (1, .int (iZ k)), (2, .int (iZ m)), (3, .int (iZ l)), (4, .int (iZ (n : Int)))] [] ξ := by
      intro fuel
      induction fuel with
      | zero => intro n l ξ hm; exact absurd hm (Nat.not_lt_zero _)
      | succ fuel ih42 =>
        intro n l ξ hm hn hR
        refine v_iload 4 K dX7_run_42 rfl ?_
        refine v_iload_n 2 K dX7_run_44 rfl ?_
        refine v_icmp_ge 92 K dX7_run_45 (by decide) (by omega) (by omega) (fun c45 => ?_) (fun c45 => ?_)
        · refine v_iload_n 2 K dX7_run_92 rfl ?_
          exact hret _ _ (Or.inl ⟨rfl, l, (by rw [show m.toNat = n by omega]; exact hR)⟩) _ _ _ _ _ (Nat.le_of_ble_eq_true rfl) (Nat.le_of_ble_eq_true rfl) dX7_run_93
        · obtain ⟨hWξ, hLξ, hpξ, hl1, hl2, hzξ⟩ := RS_ok hW hL hz n l ξ hR
          refine v_aload_n 0 K dX7_run_48 rfl ?_
          refine v_iload_n 1 K dX7_run_49 rfl ?_
          refine v_iload_n 3 K dX7_run_50 rfl ?_
          refine v_callVi (c := 0) (As := [.int (iZ k), .int (iZ l)]) (rest := []) K isO_SJ rfl 2 (c_X7_nextToChange X.1.2.1 K.2.2.2.2.2.2 _ _ _ ξ k l hk (by omega) hWξ hLξ hzξ) gX7_run_X7_nextToChange rfl rfl rfl (by decide +kernel) ⟨(Nat.le_of_ble_eq_true rfl), (Nat.le_of_ble_eq_true rfl)⟩ rfl rfl (Nat.le_of_ble_eq_true rfl) dX7_run_51 ⟨(Nat.le_of_ble_eq_true rfl), (Nat.le_of_ble_eq_true rfl)⟩ (fun q ξ1 q51 => ?_)
          refine v_istore_n [(3, .int (iZ q)), (0, .ref (vAd X 0)), (1, .int (iZ k)), (2, .int (iZ m)), (4, .int (iZ (n : Int)))] K dX7_run_54 (by decide) rfl ?_
          obtain ⟨hW1, hL1, hp1⟩ := NX_WF q51 hWξ hLξ
          have hq := NX_rng q51 hWξ
          have h61 := hW1.pc6
          have hB1 := hL1.PB9 hW1
          refine v_iload_n 0 K dX7_run_55 rfl ?_
          refine v_if_ge 62 K dX7_run_56 (by decide) (by omega) (fun c56 => ?_) (fun c56 => ?_)
          · refine v_aload_n 1 K dX7_run_62 rfl ?_
            refine v_get (c := 0) (k := 0) (C := RX7) (T := TX7) (N := 7) (v := .ref (vAd X 1)) K isO_SJ rfl (fun _ h => (List.mem_cons_of_mem _ (List.mem_append_left _ (List.mem_append_left _ (List.mem_append_left _ (List.mem_append_left _ (List.mem_append_left _ (List.mem_append_left _ (List.mem_append_right _ h))))))))) (by decide) (List.mem_cons_of_mem _ (List.mem_append_left _ (List.mem_append_left _ (List.mem_append_left _ (List.mem_append_left _ (List.mem_append_left _ (List.mem_append_left _ (List.mem_append_left _ (List.mem_append_left _ (List.mem_of_getElem? (i := 2) rfl)))))))))) rfl dX7_run_63 rfl ?_
            refine v_aload_n 1 K dX7_run_66 rfl ?_
            refine v_get (c := 0) (k := 1) (C := RX7) (T := TX7) (N := 7) (v := .ref (vAd X (2 + 0))) K isO_SJ rfl (fun _ h => (List.mem_cons_of_mem _ (List.mem_append_left _ (List.mem_append_left _ (List.mem_append_left _ (List.mem_append_left _ (List.mem_append_left _ (List.mem_append_left _ (List.mem_append_right _ h))))))))) (by decide) (List.mem_cons_of_mem _ (List.mem_append_left _ (List.mem_append_left _ (List.mem_append_left _ (List.mem_append_left _ (List.mem_append_left _ (List.mem_append_left _ (List.mem_append_left _ (List.mem_append_left _ (List.mem_of_getElem? (i := 3) rfl)))))))))) rfl dX7_run_67 rfl ?_
            refine v_iload_n 0 K dX7_run_70 rfl ?_
            refine v_aload_n 1 K dX7_run_71 rfl ?_
            refine v_get (c := 0) (k := 0) (C := RX7) (T := TX7) (N := 7) (v := .ref (vAd X 1)) K isO_SJ rfl (fun _ h => (List.mem_cons_of_mem _ (List.mem_append_left _ (List.mem_append_left _ (List.mem_append_left _ (List.mem_append_left _ (List.mem_append_left _ (List.mem_append_left _ (List.mem_append_right _ h))))))))) (by decide) (List.mem_cons_of_mem _ (List.mem_append_left _ (List.mem_append_left _ (List.mem_append_left _ (List.mem_append_left _ (List.mem_append_left _ (List.mem_append_left _ (List.mem_append_left _ (List.mem_append_left _ (List.mem_of_getElem? (i := 2) rfl)))))))))) rfl dX7_run_72 rfl ?_
            refine v_aload_n 1 K dX7_run_75 rfl ?_
            refine v_get (c := 0) (k := 1) (C := RX7) (T := TX7) (N := 7) (v := .ref (vAd X (2 + 0))) K isO_SJ rfl (fun _ h => (List.mem_cons_of_mem _ (List.mem_append_left _ (List.mem_append_left _ (List.mem_append_left _ (List.mem_append_left _ (List.mem_append_left _ (List.mem_append_left _ (List.mem_append_right _ h))))))))) (by decide) (List.mem_cons_of_mem _ (List.mem_append_left _ (List.mem_append_left _ (List.mem_append_left _ (List.mem_append_left _ (List.mem_append_left _ (List.mem_append_left _ (List.mem_append_left _ (List.mem_append_left _ (List.mem_of_getElem? (i := 3) rfl)))))))))) rfl dX7_run_76 rfl ?_
            refine v_iload_n 0 K dX7_run_79 rfl ?_
            refine v_eq (lv1 := [(3, .int (iZ q)), (0, .ref (vAd X 0)), (1, .int (iZ k)), (2, .int (iZ m)), (4, .int (iZ (n : Int)))]) (st1 := [.int (iZ (((q).toNat : Nat) : Int)), .ref (vAd X (2 + 0)), .ref (vAd X 1), .int (iZ q), .ref (vAd X (2 + 0)), .ref (vAd X 1)]) rfl (v_sI (by omega) (v_s0 (v_s0 (v_s0 (v_s0 (v_s0 rfl)))))) ?_
            refine v_callVir (c := 1) (As := [.ref (vAd X (2 + 0)), .int (iZ (((q).toNat : Nat) : Int))]) (rest := [.int (iZ q), .ref (vAd X (2 + 0)), .ref (vAd X 1)]) K isO_Bd rfl 2 (c_X0_bestOf X.1.2.1 K.2.2.2.2.2.2 _ _ _ ξ1 0 ((q).toNat) (by omega) (by omega) hW1 hB1) gX7_run_X0_bestOf rfl rfl rfl (by decide +kernel) ⟨(Nat.le_of_ble_eq_true rfl), (Nat.le_of_ble_eq_true rfl)⟩ rfl rfl (Nat.le_of_ble_eq_true rfl) dX7_run_80 ⟨(Nat.le_of_ble_eq_true rfl), (Nat.le_of_ble_eq_true rfl)⟩ ?_
            refine v_eq (lv1 := [(3, .int (iZ q)), (0, .ref (vAd X 0)), (1, .int (iZ k)), (2, .int (iZ m)), (4, .int (iZ (n : Int)))]) (st1 := [.int (iZ (bst ξ1 0 (q).toNat)), .int (iZ (((q).toNat : Nat) : Int)), .ref (vAd X (2 + 0)), .ref (vAd X 1)]) rfl (v_s0 (v_sI (by omega) (v_s0 (v_s0 rfl)))) ?_
            refine v_callVv (c := 1) (As := [.ref (vAd X (2 + 0)), .int (iZ (((q).toNat : Nat) : Int)), .int (iZ (bst ξ1 0 (q).toNat))]) (rest := []) K isO_Bd rfl 3 (c_X0_take X.1.2.1 K.2.2.2.2.2.2 _ _ _ ξ1 0 ((q).toNat) (bst ξ1 0 (q).toNat) (by omega) (by omega) hW1 (bst_rng hW1 (by omega) hB1) (hB1.1 _ (by omega))) gX7_run_X0_take rfl rfl rfl (by decide +kernel) ⟨(Nat.le_of_ble_eq_true rfl), (Nat.le_of_ble_eq_true rfl)⟩ rfl rfl (Nat.le_of_ble_eq_true rfl) dX7_run_83 ⟨(Nat.le_of_ble_eq_true rfl), (Nat.le_of_ble_eq_true rfl)⟩ (fun ξ2 q83 => ?_)
            refine v_iinc 4 [(4, .int (iZ ((n : Int) + 1))), (3, .int (iZ q)), (0, .ref (vAd X 0)), (1, .int (iZ k)), (2, .int (iZ m))] K dX7_run_86 rfl (by decide) rfl ?_
            refine v_goto 42 K dX7_run_89 (by decide) ?_
            refine v_sub [2, 3, 4, 1, 0] rfl ?_
            refine v_eq (lv1 := [(0, .ref (vAd X 0)), (1, .int (iZ k)), (2, .int (iZ m)), (3, .int (iZ q)), (4, .int (iZ (((n + 1) : Nat) : Int)))]) (st1 := []) (v_c0 (v_c0 (v_c0 (v_c0 (v_cI (by first | rfl | omega) rfl))))) rfl ?_
            exact ih42 (n + 1) q ξ2 (by omega) (by omega) (RS_s hR q51 (by omega) q83)
          · refine v_iload 4 K dX7_run_59 rfl ?_
            exact hret _ _ (Or.inr ⟨n, l, ξ, (by omega), rfl, hR, (by rw [show (-1 : Int) = q by omega]; exact q51)⟩) _ _ _ _ _ (Nat.le_of_ble_eq_true rfl) (Nat.le_of_ble_eq_true rfl) dX7_run_61
    refine v_sub [2, 3, 4, 1, 0] rfl ?_
    refine v_eq (lv1 := [(0, .ref (vAd X 0)), (1, .int (iZ k)), (2, .int (iZ m)), (3, .int (iZ (-1))), (4, .int (iZ ((0 : Nat) : Int)))]) (st1 := []) (v_c0 (v_c0 (v_c0 (v_c0 (v_cI (by first | rfl | omega) rfl))))) rfl ?_
    exact L42 (201 - 0 + 1) 0 (-1) μ (by omega) (by omega) RS_0
  refine v_iload_n 1 K dX7_run_0 rfl ?_
  refine v_bipush K dX7_run_1 (by decide) ?_
  refine v_icmp_eq 28 K dX7_run_3 (by decide) (by omega) (by decide) (fun c3 => ?_) (fun c3 => ?_)
  · exact L28 
  · refine v_iload_n 1 K dX7_run_6 rfl ?_
    refine v_bipush K dX7_run_7 (by decide) ?_
    refine v_icmp_eq 28 K dX7_run_9 (by decide) (by omega) (by decide) (fun c9 => ?_) (fun c9 => ?_)
    · exact L28 
    · refine v_iload_n 1 K dX7_run_12 rfl ?_
      refine v_bipush K dX7_run_13 (by decide) ?_
      refine v_icmp_eq 28 K dX7_run_15 (by decide) (by omega) (by decide) (fun c15 => ?_) (fun c15 => (by exfalso; omega))
      exact L28 
theorem c_X7_run (l : Launch) (hl : l.stackTraces = false) (D : va_G) (cy : Nat → ClassId) (ad : Nat → Nat) (μ : Mem) (k : Int) (m : Int) (hk : k = 103 ∨ k = 114 ∨ k = 122) (hm : 1 ≤ m ∧ m ≤ 200) (hW : WF μ) (hL : PL μ 0) (hz : zOK μ) : cI l yX7_run wsX7_run ({ frames := 6, cells := 0, slots := 0, locals := 146 } : Room) D cy ad μ [.ref (ad 0), .int (iZ k), .int (iZ m)] (fun (z : Int) (ν : Mem) => RUN μ ν k m z) :=
  m_int (av := (fun ad => [.ref (ad 0), .int (iZ k), .int (iZ m)])) hl (by decide) rfl rfl (Nat.le_of_ble_eq_true rfl) (fun _ _ _ => rfl) (fun X K hret => b_X7_run k m hk hm hW hL hz K hret)
theorem dX7_run_18 : decode cX7_run 18 = .ok (.new 95, 3) := by decide +kernel
theorem dX7_run_21 : decode cX7_run 21 = .ok (.dup, 1) := by decide +kernel
theorem dX7_run_22 : decode cX7_run 22 = .ok (.ldc 242, 2) := by decide +kernel
theorem dX7_run_24 : decode cX7_run 24 = .ok (.invokespecial 99, 3) := by decide +kernel
theorem dX7_run_27 : decode cX7_run 27 = .ok (.athrow, 1) := by decide +kernel
set_option maxHeartbeats 4000000 in
set_option maxRecDepth 100000 in
theorem b_X7_runT {X : VC} {μ : Mem} (k : Int) (m : Int) (hk0 : 0 ≤ k ∧ k ≤ 65535) (hk : k ≠ 103 ∧ k ≠ 114 ∧ k ≠ 122) (K : vK X cX7_run 5 RX7 wsX7_run ({ frames := 6, cells := 1, slots := 6, locals := 82 } : Room)) (T : vT X μ "java/lang/IllegalArgumentException") : vW X 5 0 0 0 [(0, .ref (vAd X 0)), (1, .int (iZ k)), (2, .int (iZ m))] [] μ := by
  refine v_iload_n 1 K dX7_run_0 rfl ?_
  refine v_bipush K dX7_run_1 (by decide) ?_
  refine v_icmp_eq 28 K dX7_run_3 (by decide) (by omega) (by decide) (fun c3 => (by exfalso; omega)) (fun c3 => ?_)
  refine v_iload_n 1 K dX7_run_6 rfl ?_
  refine v_bipush K dX7_run_7 (by decide) ?_
  refine v_icmp_eq 28 K dX7_run_9 (by decide) (by omega) (by decide) (fun c9 => (by exfalso; omega)) (fun c9 => ?_)
  refine v_iload_n 1 K dX7_run_12 rfl ?_
  refine v_bipush K dX7_run_13 (by decide) ?_
  refine v_icmp_eq 28 K dX7_run_15 (by decide) (by omega) (by decide) (fun c15 => (by exfalso; omega)) (fun c15 => ?_)
  exact v_throwS (own := RX7) (cls := "java/lang/IllegalArgumentException") (text := "no such rule") K T (by decide +kernel) (by decide +kernel) (List.mem_cons_of_mem _ (List.mem_append_left _ (List.mem_append_left _ (List.mem_append_left _ (List.mem_append_left _ (List.mem_append_left _ (List.mem_append_left _ (List.mem_append_left _ (List.mem_append_left _ (List.mem_of_getElem? (i := 0) rfl)))))))))) (List.mem_cons_of_mem _ (List.mem_append_left _ (List.mem_append_left _ (List.mem_append_left _ (List.mem_append_left _ (List.mem_append_left _ (List.mem_append_left _ (List.mem_append_left _ (List.mem_append_left _ (List.mem_of_getElem? (i := 1) rfl)))))))))) (fun w h => (List.mem_cons_of_mem _ (List.mem_append_left _ (List.mem_append_right _ h)))) (by decide +kernel) (by decide +kernel) (by decide +kernel) dX7_run_18 dX7_run_21 dX7_run_22 dX7_run_24 dX7_run_27 (Nat.le_of_ble_eq_true rfl) (Nat.le_of_ble_eq_true rfl) (Nat.le_of_ble_eq_true rfl) (Nat.le_of_ble_eq_true rfl)
theorem c_X7_runT (l : Launch) (hl : l.stackTraces = false) (D : va_G) (cy : Nat → ClassId) (ad : Nat → Nat) (μ : Mem) (k : Int) (m : Int) (hk0 : 0 ≤ k ∧ k ≤ 65535) (hk : k ≠ 103 ∧ k ≠ 114 ∧ k ≠ 122) : cTi l yX7_run wsX7_run ({ frames := 6, cells := 1, slots := 6, locals := 82 } : Room) D cy ad μ [.ref (ad 0), .int (iZ k), .int (iZ m)] "java/lang/IllegalArgumentException" :=
  m_thri (av := (fun ad => [.ref (ad 0), .int (iZ k), .int (iZ m)])) hl (by decide) rfl rfl (Nat.le_of_ble_eq_true rfl) (fun X K T => b_X7_runT k m hk0 hk K T)
set_option maxHeartbeats 4000000 in
set_option maxRecDepth 100000 in
theorem b_X7_runT2 {X : VC} {μ : Mem} (m : Int) (hm : 200 < m ∧ m ≤ 1000) (K : vK X cX7_run 5 RX7 wsX7_run ({ frames := 7, cells := 1, slots := 6, locals := 105 } : Room)) (T : vT X μ "java/lang/IllegalArgumentException") : vW X 5 0 0 0 [(0, .ref (vAd X 0)), (1, .int (iZ 114)), (2, .int (iZ m))] [] μ := by
  refine v_iload_n 1 K dX7_run_0 rfl ?_
  refine v_bipush K dX7_run_1 (by decide) ?_
  refine v_icmp_eq 28 K dX7_run_3 (by decide) (by decide) (by decide) (fun c3 => ?_) (fun c3 => (by exfalso; omega))
  refine v_aload_n 0 K dX7_run_28 rfl ?_
  refine v_iload_n 2 K dX7_run_29 rfl ?_
  refine v_iconst K dX7_run_30 ?_
  refine v_sipush K dX7_run_31 (by decide) ?_
  exact v_callVTv (c := 0) (As := [.int (iZ m), .int (iZ 1), .int (iZ 200)]) (rest := []) K T isO_SJ rfl 3 (c_X7_checkRangeT X.1.2.1 K.2.2.2.2.2.2 _ _ _ μ m 1 200 (by omega) (by omega) (by omega) (by omega)) gX7_run_X7_checkRange rfl rfl rfl (by decide +kernel) ⟨(Nat.le_of_ble_eq_true rfl), (Nat.le_of_ble_eq_true rfl)⟩ rfl rfl (Nat.le_of_ble_eq_true rfl) dX7_run_34 ⟨(Nat.le_of_ble_eq_true rfl), (Nat.le_of_ble_eq_true rfl)⟩ (Nat.le_of_ble_eq_true rfl) (Nat.le_of_ble_eq_true rfl)
theorem c_X7_runT2 (l : Launch) (hl : l.stackTraces = false) (D : va_G) (cy : Nat → ClassId) (ad : Nat → Nat) (μ : Mem) (m : Int) (hm : 200 < m ∧ m ≤ 1000) : cTi l yX7_run wsX7_run ({ frames := 7, cells := 1, slots := 6, locals := 105 } : Room) D cy ad μ [.ref (ad 0), .int (iZ 114), .int (iZ m)] "java/lang/IllegalArgumentException" :=
  m_thri (av := (fun ad => [.ref (ad 0), .int (iZ 114), .int (iZ m)])) hl (by decide) rfl rfl (Nat.le_of_ble_eq_true rfl) (fun X K T => b_X7_runT2 m hm K T)
