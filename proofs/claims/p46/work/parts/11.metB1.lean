theorem dX0_ownCost_0 : decode cX0_ownCost 0 = .ok (.aload_n 0, 1) := by decide +kernel
theorem dX0_ownCost_1 : decode cX0_ownCost 1 = .ok (.aload_n 1, 1) := by decide +kernel
theorem dX0_ownCost_2 : decode cX0_ownCost 2 = .ok (.iload_n 2, 1) := by decide +kernel
theorem dX0_ownCost_3 : decode cX0_ownCost 3 = .ok (.aload_n 1, 1) := by decide +kernel
theorem dX0_ownCost_4 : decode cX0_ownCost 4 = .ok (.getfield 62, 3) := by decide +kernel
theorem dX0_ownCost_7 : decode cX0_ownCost 7 = .ok (.iload_n 2, 1) := by decide +kernel
theorem dX0_ownCost_8 : decode cX0_ownCost 8 = .ok (.iaload, 1) := by decide +kernel
theorem dX0_ownCost_9 : decode cX0_ownCost 9 = .ok (.invokevirtual 94, 3) := by decide +kernel
set_option maxRecDepth 20000 in
theorem ggX0_ownCost_X0_costAlone : GoodIn wsX0_ownCost wsX0_costAlone := goodIn_ca (goodIn_r _ [6, 7, 1, 8, 9, 10, 11, 12, 13, 14, 15, 16, 17, 18, 19, 20, 21, 22, 23, 24, 25, 26, 27, 28, 29, 33, 34, 35, 36, 30, 31, 32, 37, 38, 39, 40, 41, 42, 43, 44, 45, 46, 47, 48, 49] (by decide +kernel) (by decide +kernel)) (goodIn_sub (fun _ h => List.mem_cons_of_mem _ (List.mem_append_right _ h)) (by decide +kernel))
set_option maxRecDepth 20000 in
theorem gX0_ownCost_X0_costAlone : GoodIn wsX0_ownCost (wsV RX0 94 RX0 yX0_costAlone wsX0_costAlone) := goodIn_app (goodIn_of _ (by decide +kernel)) ggX0_ownCost_X0_costAlone
theorem dX0_ownCost_12 : decode cX0_ownCost 12 = .ok (.ireturn, 1) := by decide +kernel
set_option maxHeartbeats 4000000 in
set_option maxRecDepth 100000 in
theorem b_X0_ownCost {X : VC} {μ : Mem} (y : Nat) (p : Nat) (hy : y < 2) (hp : p < 6) (hW : WF μ) (hB : PB μ y) (K : vK X cX0_ownCost 3 RX0 wsX0_ownCost ({ frames := 2, cells := 0, slots := 0, locals := 50 } : Room)) (hret : ∀ (z : Int) (ν : Mem), (fun (z : Int) (ν : Mem) => z = cst μ y p (μ (5 + 2 * y) p) ∧ ν = μ) z ν → ∀ n pc k1 k2 lv, k1 ≤ 0 → k2 ≤ 0 → decode cX0_ownCost pc = .ok (.ireturn, 1) → vW X n pc k1 k2 lv [.int (iZ z)] ν) : vW X 3 0 0 0 [(0, .ref (vAd X 1)), (1, .ref (vAd X (2 + y))), (2, .int (iZ (p : Int)))] [] μ := by
  have hch := hB.1 p hp
  refine v_aload_n 0 K dX0_ownCost_0 rfl ?_
  refine v_aload_n 1 K dX0_ownCost_1 rfl ?_
  refine v_iload_n 2 K dX0_ownCost_2 rfl ?_
  refine v_aload_n 1 K dX0_ownCost_3 rfl ?_
  refine v_get (c := (2 + y)) (k := 0) (C := RX3) (T := TX3) (N := 3) (v := .ref (vAd X (5 + 2 * y))) K (isO_Pl (y := y) (by omega)) rfl (fun _ h => (List.mem_cons_of_mem _ (List.mem_append_left _ (List.mem_append_left _ (List.mem_append_left _ (List.mem_append_left _ (List.mem_append_right _ h))))))) (by decide) (List.mem_cons_of_mem _ (List.mem_append_left _ (List.mem_append_left _ (List.mem_append_left _ (List.mem_append_left _ (List.mem_append_left _ (List.mem_append_left _ (List.mem_of_getElem? (i := 0) rfl)))))))) rfl dX0_ownCost_4 rfl ?_
  refine v_iload_n 2 K dX0_ownCost_7 rfl ?_
  refine v_iald (c := (5 + 2 * y)) p K (isI_ch (y := y) (by omega)) rfl (by omega) dX0_ownCost_8 ?_
  refine v_callVir (c := 1) (As := [.ref (vAd X (2 + y)), .int (iZ (p : Int)), .int (iZ (μ (5 + 2 * y) p))]) (rest := []) K isO_Bd rfl 3 (c_X0_costAlone X.1.2.1 K.2.2.2.2.2.2 _ _ _ μ y p (μ (5 + 2 * y) p) hy hp hW hB (by omega)) gX0_ownCost_X0_costAlone rfl rfl rfl (by decide +kernel) ⟨(Nat.le_of_ble_eq_true rfl), (Nat.le_of_ble_eq_true rfl)⟩ rfl rfl (Nat.le_of_ble_eq_true rfl) dX0_ownCost_9 ⟨(Nat.le_of_ble_eq_true rfl), (Nat.le_of_ble_eq_true rfl)⟩ ?_
  exact hret _ _ ⟨rfl, rfl⟩ _ _ _ _ _ (Nat.le_of_ble_eq_true rfl) (Nat.le_of_ble_eq_true rfl) dX0_ownCost_12
theorem c_X0_ownCost (l : Launch) (hl : l.stackTraces = false) (D : va_G) (cy : Nat → ClassId) (ad : Nat → Nat) (μ : Mem) (y : Nat) (p : Nat) (hy : y < 2) (hp : p < 6) (hW : WF μ) (hB : PB μ y) : cI l yX0_ownCost wsX0_ownCost ({ frames := 2, cells := 0, slots := 0, locals := 50 } : Room) D cy ad μ [.ref (ad 1), .ref (ad (2 + y)), .int (iZ (p : Int))] (fun (z : Int) (ν : Mem) => z = cst μ y p (μ (5 + 2 * y) p) ∧ ν = μ) :=
  m_int (av := (fun ad => [.ref (ad 1), .ref (ad (2 + y)), .int (iZ (p : Int))])) hl (by decide) rfl rfl (Nat.le_of_ble_eq_true rfl) (fun _ _ _ => rfl) (fun X K hret => b_X0_ownCost y p hy hp hW hB K hret)
theorem dX0_isAsked_0 : decode cX0_isAsked 0 = .ok (.aload_n 0, 1) := by decide +kernel
theorem dX0_isAsked_1 : decode cX0_isAsked 1 = .ok (.getfield 20, 3) := by decide +kernel
theorem dX0_isAsked_4 : decode cX0_isAsked 4 = .ok (.iload_n 2, 1) := by decide +kernel
theorem dX0_isAsked_5 : decode cX0_isAsked 5 = .ok (.aaload, 1) := by decide +kernel
theorem dX0_isAsked_6 : decode cX0_isAsked 6 = .ok (.getfield 98, 3) := by decide +kernel
theorem dX0_isAsked_9 : decode cX0_isAsked 9 = .ok (.ifCond .ne 16, 3) := by decide +kernel
theorem dX0_isAsked_25 : decode cX0_isAsked 25 = .ok (.iconst 0, 1) := by decide +kernel
theorem dX0_isAsked_26 : decode cX0_isAsked 26 = .ok (.ireturn, 1) := by decide +kernel
theorem dX0_isAsked_12 : decode cX0_isAsked 12 = .ok (.aload_n 1, 1) := by decide +kernel
theorem dX0_isAsked_13 : decode cX0_isAsked 13 = .ok (.getfield 62, 3) := by decide +kernel
theorem dX0_isAsked_16 : decode cX0_isAsked 16 = .ok (.iload_n 2, 1) := by decide +kernel
theorem dX0_isAsked_17 : decode cX0_isAsked 17 = .ok (.iaload, 1) := by decide +kernel
theorem dX0_isAsked_18 : decode cX0_isAsked 18 = .ok (.ifCond .lt 7, 3) := by decide +kernel
theorem dX0_isAsked_21 : decode cX0_isAsked 21 = .ok (.iconst 1, 1) := by decide +kernel
theorem dX0_isAsked_22 : decode cX0_isAsked 22 = .ok (.goto 4, 3) := by decide +kernel
set_option maxHeartbeats 4000000 in
set_option maxRecDepth 100000 in
theorem b_X0_isAsked {X : VC} {μ : Mem} (y : Nat) (p : Nat) (hy : y < 2) (hp : p < 6) (hW : WF μ) (hB : PB μ y) (K : vK X cX0_isAsked 3 RX0 wsX0_isAsked ({ frames := 0, cells := 0, slots := 0, locals := 0 } : Room)) (hret : ∀ (z : Int) (ν : Mem), (fun (z : Int) (ν : Mem) => z = ask μ y p ∧ ν = μ) z ν → ∀ n pc k1 k2 lv, k1 ≤ 0 → k2 ≤ 0 → decode cX0_isAsked pc = .ok (.ireturn, 1) → vW X n pc k1 k2 lv [.int (iZ z)] ν) : vW X 3 0 0 0 [(0, .ref (vAd X 1)), (1, .ref (vAd X (2 + y))), (2, .int (iZ (p : Int)))] [] μ := by
  have hpl := hW.pl hp
  have hch := hB.1 p hp
  refine v_aload_n 0 K dX0_isAsked_0 rfl ?_
  refine v_get (c := 1) (k := 1) (C := RX0) (T := TX0) (N := 4) (v := .ref (vAd X 20)) K isO_Bd rfl (fun _ h => (List.mem_cons_of_mem _ (List.mem_append_left _ (List.mem_append_left _ (List.mem_append_left _ (List.mem_append_right _ h)))))) (by decide) (List.mem_cons_of_mem _ (List.mem_append_left _ (List.mem_append_left _ (List.mem_append_left _ (List.mem_append_left _ (List.mem_of_getElem? (i := 0) rfl)))))) rfl dX0_isAsked_1 rfl ?_
  refine v_iload_n 2 K dX0_isAsked_4 rfl ?_
  refine v_aald (c := 20) p K isQ_Py rfl rfl (by omega) dX0_isAsked_5 ?_
  refine v_get (c := (37 + p)) (k := 2) (C := RX4) (T := TX4) (N := 6) (v := .int (iZ (μ (37 + p) 2))) K (isO_Py (p := p) (by omega)) rfl (fun _ h => (List.mem_cons_of_mem _ (List.mem_append_left _ (List.mem_append_left _ (List.mem_append_right _ h))))) (by decide) (List.mem_cons_of_mem _ (List.mem_append_left _ (List.mem_append_left _ (List.mem_append_left _ (List.mem_append_left _ (List.mem_of_getElem? (i := 1) rfl)))))) rfl dX0_isAsked_6 rfl ?_
  refine v_if_ne 25 K dX0_isAsked_9 (by decide) (by omega) (fun c9 => ?_) (fun c9 => ?_)
  · refine v_iconst K dX0_isAsked_25 ?_
    exact hret _ _ ⟨(by unfold ask; rw [if_neg (by omega)]), rfl⟩ _ _ _ _ _ (Nat.le_of_ble_eq_true rfl) (Nat.le_of_ble_eq_true rfl) dX0_isAsked_26
  · refine v_aload_n 1 K dX0_isAsked_12 rfl ?_
    refine v_get (c := (2 + y)) (k := 0) (C := RX3) (T := TX3) (N := 3) (v := .ref (vAd X (5 + 2 * y))) K (isO_Pl (y := y) (by omega)) rfl (fun _ h => (List.mem_cons_of_mem _ (List.mem_append_left _ (List.mem_append_right _ h)))) (by decide) (List.mem_cons_of_mem _ (List.mem_append_left _ (List.mem_append_left _ (List.mem_append_left _ (List.mem_append_left _ (List.mem_of_getElem? (i := 2) rfl)))))) rfl dX0_isAsked_13 rfl ?_
    refine v_iload_n 2 K dX0_isAsked_16 rfl ?_
    refine v_iald (c := (5 + 2 * y)) p K (isI_ch (y := y) (by omega)) rfl (by omega) dX0_isAsked_17 ?_
    refine v_if_lt 25 K dX0_isAsked_18 (by decide) (by omega) (fun c18 => ?_) (fun c18 => ?_)
    · refine v_iconst K dX0_isAsked_25 ?_
      exact hret _ _ ⟨(by unfold ask; rw [if_neg (by omega)]), rfl⟩ _ _ _ _ _ (Nat.le_of_ble_eq_true rfl) (Nat.le_of_ble_eq_true rfl) dX0_isAsked_26
    · refine v_iconst K dX0_isAsked_21 ?_
      refine v_goto 26 K dX0_isAsked_22 (by decide) ?_
      exact hret _ _ ⟨(by unfold ask; rw [if_pos (by omega)]), rfl⟩ _ _ _ _ _ (Nat.le_of_ble_eq_true rfl) (Nat.le_of_ble_eq_true rfl) dX0_isAsked_26
theorem c_X0_isAsked (l : Launch) (hl : l.stackTraces = false) (D : va_G) (cy : Nat → ClassId) (ad : Nat → Nat) (μ : Mem) (y : Nat) (p : Nat) (hy : y < 2) (hp : p < 6) (hW : WF μ) (hB : PB μ y) : cI l yX0_isAsked wsX0_isAsked ({ frames := 0, cells := 0, slots := 0, locals := 0 } : Room) D cy ad μ [.ref (ad 1), .ref (ad (2 + y)), .int (iZ (p : Int))] (fun (z : Int) (ν : Mem) => z = ask μ y p ∧ ν = μ) :=
  m_int (av := (fun ad => [.ref (ad 1), .ref (ad (2 + y)), .int (iZ (p : Int))])) hl (by decide) rfl rfl (Nat.le_of_ble_eq_true rfl) (fun z ν q => (nar_z (by have h0 := ask_01 μ y p; have := q.1; omega)).1) (fun X K hret => b_X0_isAsked y p hy hp hW hB K hret)
theorem dX0_bestOf_0 : decode cX0_bestOf 0 = .ok (.aload_n 1, 1) := by decide +kernel
theorem dX0_bestOf_1 : decode cX0_bestOf 1 = .ok (.getfield 62, 3) := by decide +kernel
theorem dX0_bestOf_4 : decode cX0_bestOf 4 = .ok (.iload_n 2, 1) := by decide +kernel
theorem dX0_bestOf_5 : decode cX0_bestOf 5 = .ok (.iaload, 1) := by decide +kernel
theorem dX0_bestOf_6 : decode cX0_bestOf 6 = .ok (.istore_n 3, 1) := by decide +kernel
theorem dX0_bestOf_7 : decode cX0_bestOf 7 = .ok (.aload_n 0, 1) := by decide +kernel
theorem dX0_bestOf_8 : decode cX0_bestOf 8 = .ok (.aload_n 1, 1) := by decide +kernel
theorem dX0_bestOf_9 : decode cX0_bestOf 9 = .ok (.iload_n 2, 1) := by decide +kernel
theorem dX0_bestOf_10 : decode cX0_bestOf 10 = .ok (.iload_n 3, 1) := by decide +kernel
theorem dX0_bestOf_11 : decode cX0_bestOf 11 = .ok (.invokevirtual 94, 3) := by decide +kernel
set_option maxRecDepth 20000 in
theorem ggX0_bestOf_X0_costAlone : GoodIn wsX0_bestOf wsX0_costAlone := goodIn_ca (goodIn_r _ [8, 2, 1, 9, 10, 11, 12, 13, 14, 15, 16, 17, 18, 19, 20, 21, 22, 23, 24, 25, 26, 27, 28, 29, 30, 39, 40, 41, 42, 36, 37, 38, 43, 44, 45, 46, 47, 48, 49, 50, 51, 52, 53, 54, 55] (by decide +kernel) (by decide +kernel)) (goodIn_sub (fun _ h => List.mem_cons_of_mem _ (List.mem_append_right _ h)) (by decide +kernel))
set_option maxRecDepth 20000 in
theorem gX0_bestOf_X0_costAlone : GoodIn wsX0_bestOf (wsV RX0 94 RX0 yX0_costAlone wsX0_costAlone) := goodIn_app (goodIn_of _ (by decide +kernel)) ggX0_bestOf_X0_costAlone
theorem dX0_bestOf_14 : decode cX0_bestOf 14 = .ok (.istore 4, 2) := by decide +kernel
theorem dX0_bestOf_16 : decode cX0_bestOf 16 = .ok (.iconst 0, 1) := by decide +kernel
theorem dX0_bestOf_17 : decode cX0_bestOf 17 = .ok (.istore 5, 2) := by decide +kernel
theorem dX0_bestOf_19 : decode cX0_bestOf 19 = .ok (.iload 5, 2) := by decide +kernel
theorem dX0_bestOf_21 : decode cX0_bestOf 21 = .ok (.aload_n 0, 1) := by decide +kernel
theorem dX0_bestOf_22 : decode cX0_bestOf 22 = .ok (.getfield 20, 3) := by decide +kernel
theorem dX0_bestOf_25 : decode cX0_bestOf 25 = .ok (.iload_n 2, 1) := by decide +kernel
theorem dX0_bestOf_26 : decode cX0_bestOf 26 = .ok (.aaload, 1) := by decide +kernel
theorem dX0_bestOf_27 : decode cX0_bestOf 27 = .ok (.getfield 51, 3) := by decide +kernel
theorem dX0_bestOf_30 : decode cX0_bestOf 30 = .ok (.if_icmp .ge 44, 3) := by decide +kernel
theorem dX0_bestOf_74 : decode cX0_bestOf 74 = .ok (.iload_n 3, 1) := by decide +kernel
theorem dX0_bestOf_75 : decode cX0_bestOf 75 = .ok (.ireturn, 1) := by decide +kernel
theorem dX0_bestOf_33 : decode cX0_bestOf 33 = .ok (.aload_n 0, 1) := by decide +kernel
theorem dX0_bestOf_34 : decode cX0_bestOf 34 = .ok (.aload_n 1, 1) := by decide +kernel
theorem dX0_bestOf_35 : decode cX0_bestOf 35 = .ok (.iload_n 2, 1) := by decide +kernel
theorem dX0_bestOf_36 : decode cX0_bestOf 36 = .ok (.iload 5, 2) := by decide +kernel
theorem dX0_bestOf_38 : decode cX0_bestOf 38 = .ok (.invokevirtual 84, 3) := by decide +kernel
set_option maxRecDepth 20000 in
theorem ggX0_bestOf_X0_isOpen : GoodIn wsX0_bestOf wsX0_isOpen := goodIn_ca (goodIn_r _ [34, 2, 35, 15, 16, 17, 18, 19, 20, 21, 39, 40, 41, 42, 36, 37, 38, 43, 44, 45, 46, 47, 48] (by decide +kernel) (by decide +kernel)) (goodIn_sub (fun _ h => List.mem_cons_of_mem _ (List.mem_append_right _ h)) (by decide +kernel))
set_option maxRecDepth 20000 in
theorem gX0_bestOf_X0_isOpen : GoodIn wsX0_bestOf (wsV RX0 84 RX0 yX0_isOpen wsX0_isOpen) := goodIn_app (goodIn_of _ (by decide +kernel)) ggX0_bestOf_X0_isOpen
theorem dX0_bestOf_41 : decode cX0_bestOf 41 = .ok (.ifCond .eq 27, 3) := by decide +kernel
theorem dX0_bestOf_44 : decode cX0_bestOf 44 = .ok (.aload_n 0, 1) := by decide +kernel
theorem dX0_bestOf_45 : decode cX0_bestOf 45 = .ok (.aload_n 1, 1) := by decide +kernel
theorem dX0_bestOf_46 : decode cX0_bestOf 46 = .ok (.iload_n 2, 1) := by decide +kernel
theorem dX0_bestOf_47 : decode cX0_bestOf 47 = .ok (.iload 5, 2) := by decide +kernel
theorem dX0_bestOf_49 : decode cX0_bestOf 49 = .ok (.invokevirtual 94, 3) := by decide +kernel
theorem dX0_bestOf_52 : decode cX0_bestOf 52 = .ok (.istore 6, 2) := by decide +kernel
theorem dX0_bestOf_54 : decode cX0_bestOf 54 = .ok (.iload 6, 2) := by decide +kernel
theorem dX0_bestOf_56 : decode cX0_bestOf 56 = .ok (.iload 4, 2) := by decide +kernel
theorem dX0_bestOf_58 : decode cX0_bestOf 58 = .ok (.if_icmp .ge 10, 3) := by decide +kernel
theorem dX0_bestOf_68 : decode cX0_bestOf 68 = .ok (.iinc 5 1, 3) := by decide +kernel
theorem dX0_bestOf_71 : decode cX0_bestOf 71 = .ok (.goto (-52), 3) := by decide +kernel
theorem dX0_bestOf_61 : decode cX0_bestOf 61 = .ok (.iload 5, 2) := by decide +kernel
theorem dX0_bestOf_63 : decode cX0_bestOf 63 = .ok (.istore_n 3, 1) := by decide +kernel
theorem dX0_bestOf_64 : decode cX0_bestOf 64 = .ok (.iload 6, 2) := by decide +kernel
theorem dX0_bestOf_66 : decode cX0_bestOf 66 = .ok (.istore 4, 2) := by decide +kernel
set_option maxHeartbeats 4000000 in
set_option maxRecDepth 100000 in
theorem b_X0_bestOf {X : VC} {μ : Mem} (y : Nat) (p : Nat) (hy : y < 2) (hp : p < 6) (hW : WF μ) (hB : PB μ y) (K : vK X cX0_bestOf 7 RX0 wsX0_bestOf ({ frames := 2, cells := 0, slots := 0, locals := 50 } : Room)) (hret : ∀ (z : Int) (ν : Mem), (fun (z : Int) (ν : Mem) => z = bst μ y p ∧ ν = μ) z ν → ∀ n pc k1 k2 lv, k1 ≤ 0 → k2 ≤ 0 → decode cX0_bestOf pc = .ok (.ireturn, 1) → vW X n pc k1 k2 lv [.int (iZ z)] ν) : vW X 7 0 0 0 [(0, .ref (vAd X 1)), (1, .ref (vAd X (2 + y))), (2, .int (iZ (p : Int)))] [] μ := by
  have hpl := hW.pl hp
  have hch := hB.1 p hp
  refine v_aload_n 1 K dX0_bestOf_0 rfl ?_
  refine v_get (c := (2 + y)) (k := 0) (C := RX3) (T := TX3) (N := 3) (v := .ref (vAd X (5 + 2 * y))) K (isO_Pl (y := y) (by omega)) rfl (fun _ h => (List.mem_cons_of_mem _ (List.mem_append_left _ (List.mem_append_left _ (List.mem_append_left _ (List.mem_append_left _ (List.mem_append_right _ h))))))) (by decide) (List.mem_cons_of_mem _ (List.mem_append_left _ (List.mem_append_left _ (List.mem_append_left _ (List.mem_append_left _ (List.mem_append_left _ (List.mem_append_left _ (List.mem_of_getElem? (i := 0) rfl)))))))) rfl dX0_bestOf_1 rfl ?_
  refine v_iload_n 2 K dX0_bestOf_4 rfl ?_
  refine v_iald (c := (5 + 2 * y)) p K (isI_ch (y := y) (by omega)) rfl (by omega) dX0_bestOf_5 ?_
  refine v_istore_n [(3, .int (iZ (μ (5 + 2 * y) p))), (0, .ref (vAd X 1)), (1, .ref (vAd X (2 + y))), (2, .int (iZ (p : Int)))] K dX0_bestOf_6 (by decide) rfl ?_
  refine v_aload_n 1 K dX0_bestOf_7 rfl ?_
  refine v_aload_n 2 K dX0_bestOf_8 rfl ?_
  refine v_iload_n 3 K dX0_bestOf_9 rfl ?_
  refine v_iload_n 0 K dX0_bestOf_10 rfl ?_
  refine v_callVir (c := 1) (As := [.ref (vAd X (2 + y)), .int (iZ (p : Int)), .int (iZ (μ (5 + 2 * y) p))]) (rest := []) K isO_Bd rfl 3 (c_X0_costAlone X.1.2.1 K.2.2.2.2.2.2 _ _ _ μ y p (μ (5 + 2 * y) p) hy hp hW hB (by omega)) gX0_bestOf_X0_costAlone rfl rfl rfl (by decide +kernel) ⟨(Nat.le_of_ble_eq_true rfl), (Nat.le_of_ble_eq_true rfl)⟩ rfl rfl (Nat.le_of_ble_eq_true rfl) dX0_bestOf_11 ⟨(Nat.le_of_ble_eq_true rfl), (Nat.le_of_ble_eq_true rfl)⟩ ?_
  refine v_istore [(4, .int (iZ (cst μ y p (μ (5 + 2 * y) p)))), (3, .int (iZ (μ (5 + 2 * y) p))), (0, .ref (vAd X 1)), (1, .ref (vAd X (2 + y))), (2, .int (iZ (p : Int)))] K dX0_bestOf_14 (by decide) rfl ?_
  refine v_iconst K dX0_bestOf_16 ?_
  refine v_istore [(5, .int (iZ 0)), (4, .int (iZ (cst μ y p (μ (5 + 2 * y) p)))), (3, .int (iZ (μ (5 + 2 * y) p))), (0, .ref (vAd X 1)), (1, .ref (vAd X (2 + y))), (2, .int (iZ (p : Int)))] K dX0_bestOf_17 (by decide) rfl ?_
  have L19 : ∀ (fuel : Nat) (w : Nat) (hm : 6 - w < fuel) (hw : (w : Int) ≤ μ (37 + p) 3), vW X 7 19 0 0 [(0, .ref (vAd X 1)), (1, .ref (vAd X (2 + y))), (2, .int (iZ (p : Int))), (3, .int (iZ (bsF μ y p w))), (4, .int (iZ (cst μ y p (bsF μ y p w)))), (5, .int (iZ (w : Int)))] [] μ := by
    intro fuel
    induction fuel with
    | zero => intro w hm; exact absurd hm (Nat.not_lt_zero _)
    | succ fuel ih19 =>
      intro w hm hw
      refine v_iload 5 K dX0_bestOf_19 rfl ?_
      refine v_aload_n 0 K dX0_bestOf_21 rfl ?_
      refine v_get (c := 1) (k := 1) (C := RX0) (T := TX0) (N := 4) (v := .ref (vAd X 20)) K isO_Bd rfl (fun _ h => (List.mem_cons_of_mem _ (List.mem_append_left _ (List.mem_append_left _ (List.mem_append_left _ (List.mem_append_right _ h)))))) (by decide) (List.mem_cons_of_mem _ (List.mem_append_left _ (List.mem_append_left _ (List.mem_append_left _ (List.mem_append_left _ (List.mem_append_left _ (List.mem_append_left _ (List.mem_of_getElem? (i := 1) rfl)))))))) rfl dX0_bestOf_22 rfl ?_
      refine v_iload_n 2 K dX0_bestOf_25 rfl ?_
      refine v_aald (c := 20) p K isQ_Py rfl rfl (by omega) dX0_bestOf_26 ?_
      refine v_get (c := (37 + p)) (k := 3) (C := RX4) (T := TX4) (N := 6) (v := .int (iZ (μ (37 + p) 3))) K (isO_Py (p := p) (by omega)) rfl (fun _ h => (List.mem_cons_of_mem _ (List.mem_append_left _ (List.mem_append_left _ (List.mem_append_right _ h))))) (by decide) (List.mem_cons_of_mem _ (List.mem_append_left _ (List.mem_append_left _ (List.mem_append_left _ (List.mem_append_left _ (List.mem_append_left _ (List.mem_append_left _ (List.mem_of_getElem? (i := 2) rfl)))))))) rfl dX0_bestOf_27 rfl ?_
      refine v_icmp_ge 74 K dX0_bestOf_30 (by decide) (by omega) (by omega) (fun c30 => ?_) (fun c30 => ?_)
      · refine v_iload_n 3 K dX0_bestOf_74 rfl ?_
        exact hret _ _ ⟨(by unfold bst; rw [show (μ (37 + p) 3).toNat = w by omega]), rfl⟩ _ _ _ _ _ (Nat.le_of_ble_eq_true rfl) (Nat.le_of_ble_eq_true rfl) dX0_bestOf_75
      · have hc1 := cst_rng hW (y := y) hp (w : Int)
        have hc2 := cst_rng hW (y := y) hp (bsF μ y p w)
        refine v_aload_n 0 K dX0_bestOf_33 rfl ?_
        refine v_aload_n 1 K dX0_bestOf_34 rfl ?_
        refine v_iload_n 2 K dX0_bestOf_35 rfl ?_
        refine v_iload 5 K dX0_bestOf_36 rfl ?_
        refine v_callVir (c := 1) (As := [.ref (vAd X (2 + y)), .int (iZ (p : Int)), .int (iZ (w : Int))]) (rest := []) K isO_Bd rfl 3 (c_X0_isOpen X.1.2.1 K.2.2.2.2.2.2 _ _ _ μ y p (w : Int) hy hp hW (by omega) hB.2.2) gX0_bestOf_X0_isOpen rfl rfl rfl (by decide +kernel) ⟨(Nat.le_of_ble_eq_true rfl), (Nat.le_of_ble_eq_true rfl)⟩ rfl rfl (Nat.le_of_ble_eq_true rfl) dX0_bestOf_38 ⟨(Nat.le_of_ble_eq_true rfl), (Nat.le_of_ble_eq_true rfl)⟩ ?_
        refine v_if_eq 68 K dX0_bestOf_41 (by decide) (by decide) (fun c41 => (by exfalso; omega)) (fun c41 => ?_)
        refine v_aload_n 0 K dX0_bestOf_44 rfl ?_
        refine v_aload_n 1 K dX0_bestOf_45 rfl ?_
        refine v_iload_n 2 K dX0_bestOf_46 rfl ?_
        refine v_iload 5 K dX0_bestOf_47 rfl ?_
        refine v_callVir (c := 1) (As := [.ref (vAd X (2 + y)), .int (iZ (p : Int)), .int (iZ (w : Int))]) (rest := []) K isO_Bd rfl 3 (c_X0_costAlone X.1.2.1 K.2.2.2.2.2.2 _ _ _ μ y p (w : Int) hy hp hW hB (by omega)) gX0_bestOf_X0_costAlone rfl rfl rfl (by decide +kernel) ⟨(Nat.le_of_ble_eq_true rfl), (Nat.le_of_ble_eq_true rfl)⟩ rfl rfl (Nat.le_of_ble_eq_true rfl) dX0_bestOf_49 ⟨(Nat.le_of_ble_eq_true rfl), (Nat.le_of_ble_eq_true rfl)⟩ ?_
        refine v_istore [(6, .int (iZ (cst μ y p (w : Int)))), (0, .ref (vAd X 1)), (1, .ref (vAd X (2 + y))), (2, .int (iZ (p : Int))), (3, .int (iZ (bsF μ y p w))), (4, .int (iZ (cst μ y p (bsF μ y p w)))), (5, .int (iZ (w : Int)))] K dX0_bestOf_52 (by decide) rfl ?_
        refine v_iload 0 K dX0_bestOf_54 rfl ?_
        refine v_iload 5 K dX0_bestOf_56 rfl ?_
        refine v_icmp_ge 68 K dX0_bestOf_58 (by decide) (by omega) (by omega) (fun c58 => ?_) (fun c58 => ?_)
        · refine v_iinc 6 [(5, .int (iZ ((w : Int) + 1))), (6, .int (iZ (cst μ y p (w : Int)))), (0, .ref (vAd X 1)), (1, .ref (vAd X (2 + y))), (2, .int (iZ (p : Int))), (3, .int (iZ (bsF μ y p w))), (4, .int (iZ (cst μ y p (bsF μ y p w))))] K dX0_bestOf_68 rfl (by decide) rfl ?_
          refine v_goto 19 K dX0_bestOf_71 (by decide) ?_
          refine v_sub [2, 3, 4, 5, 6, 0] rfl ?_
          refine v_eq (lv1 := [(0, .ref (vAd X 1)), (1, .ref (vAd X (2 + y))), (2, .int (iZ (p : Int))), (3, .int (iZ (bsF μ y p (w + 1)))), (4, .int (iZ (cst μ y p (bsF μ y p (w + 1))))), (5, .int (iZ (((w + 1) : Nat) : Int)))]) (st1 := []) (v_c0 (v_c0 (v_c0 (v_cI (by first | rw [bsF_y (by omega)] | rw [bsF_n (by omega)]) (v_cI (by first | rw [bsF_y (by omega)] | rw [bsF_n (by omega)]) (v_cI (by first | rfl | omega) rfl)))))) rfl ?_
          exact ih19 (w + 1) (by omega) (by omega)
        · refine v_iload 6 K dX0_bestOf_61 rfl ?_
          refine v_istore_n [(3, .int (iZ (w : Int))), (6, .int (iZ (cst μ y p (w : Int)))), (0, .ref (vAd X 1)), (1, .ref (vAd X (2 + y))), (2, .int (iZ (p : Int))), (4, .int (iZ (cst μ y p (bsF μ y p w)))), (5, .int (iZ (w : Int)))] K dX0_bestOf_63 (by decide) rfl ?_
          refine v_iload 1 K dX0_bestOf_64 rfl ?_
          refine v_istore [(4, .int (iZ (cst μ y p (w : Int)))), (3, .int (iZ (w : Int))), (6, .int (iZ (cst μ y p (w : Int)))), (0, .ref (vAd X 1)), (1, .ref (vAd X (2 + y))), (2, .int (iZ (p : Int))), (5, .int (iZ (w : Int)))] K dX0_bestOf_66 (by decide) rfl ?_
          refine v_iinc 6 [(5, .int (iZ ((w : Int) + 1))), (4, .int (iZ (cst μ y p (w : Int)))), (3, .int (iZ (w : Int))), (6, .int (iZ (cst μ y p (w : Int)))), (0, .ref (vAd X 1)), (1, .ref (vAd X (2 + y))), (2, .int (iZ (p : Int)))] K dX0_bestOf_68 rfl (by decide) rfl ?_
          refine v_goto 19 K dX0_bestOf_71 (by decide) ?_
          refine v_sub [4, 5, 6, 2, 1, 0] rfl ?_
          refine v_eq (lv1 := [(0, .ref (vAd X 1)), (1, .ref (vAd X (2 + y))), (2, .int (iZ (p : Int))), (3, .int (iZ (bsF μ y p (w + 1)))), (4, .int (iZ (cst μ y p (bsF μ y p (w + 1))))), (5, .int (iZ (((w + 1) : Nat) : Int)))]) (st1 := []) (v_c0 (v_c0 (v_c0 (v_cI (by first | rw [bsF_y (by omega)] | rw [bsF_n (by omega)]) (v_cI (by first | rw [bsF_y (by omega)] | rw [bsF_n (by omega)]) (v_cI (by first | rfl | omega) rfl)))))) rfl ?_
          exact ih19 (w + 1) (by omega) (by omega)
  refine v_sub [3, 4, 5, 2, 1, 0] rfl ?_
  refine v_eq (lv1 := [(0, .ref (vAd X 1)), (1, .ref (vAd X (2 + y))), (2, .int (iZ (p : Int))), (3, .int (iZ (bsF μ y p 0))), (4, .int (iZ (cst μ y p (bsF μ y p 0)))), (5, .int (iZ ((0 : Nat) : Int)))]) (st1 := []) (v_c0 (v_c0 (v_c0 (v_cI (by first | rfl | omega) (v_cI (by first | rfl | omega) (v_cI (by first | rfl | omega) rfl)))))) rfl ?_
  exact L19 (6 - 0 + 1) 0 (by omega) (by omega)
theorem c_X0_bestOf (l : Launch) (hl : l.stackTraces = false) (D : va_G) (cy : Nat → ClassId) (ad : Nat → Nat) (μ : Mem) (y : Nat) (p : Nat) (hy : y < 2) (hp : p < 6) (hW : WF μ) (hB : PB μ y) : cI l yX0_bestOf wsX0_bestOf ({ frames := 2, cells := 0, slots := 0, locals := 50 } : Room) D cy ad μ [.ref (ad 1), .ref (ad (2 + y)), .int (iZ (p : Int))] (fun (z : Int) (ν : Mem) => z = bst μ y p ∧ ν = μ) :=
  m_int (av := (fun ad => [.ref (ad 1), .ref (ad (2 + y)), .int (iZ (p : Int))])) hl (by decide) rfl rfl (Nat.le_of_ble_eq_true rfl) (fun _ _ _ => rfl) (fun X K hret => b_X0_bestOf y p hy hp hW hB K hret)
theorem dX0_gainOf_0 : decode cX0_gainOf 0 = .ok (.aload_n 0, 1) := by decide +kernel
theorem dX0_gainOf_1 : decode cX0_gainOf 1 = .ok (.aload_n 1, 1) := by decide +kernel
theorem dX0_gainOf_2 : decode cX0_gainOf 2 = .ok (.iload_n 2, 1) := by decide +kernel
theorem dX0_gainOf_3 : decode cX0_gainOf 3 = .ok (.invokevirtual 102, 3) := by decide +kernel
set_option maxRecDepth 20000 in
theorem ggX0_gainOf_X0_isAsked : GoodIn wsX0_gainOf wsX0_isAsked := goodIn_ca (goodIn_r _ [5, 6, 7, 8, 49, 50, 51, 52, 53, 54, 55, 56, 57, 58, 59, 60, 61] (by decide +kernel) (by decide +kernel)) (goodIn_sub (fun _ h => List.mem_cons_of_mem _ (List.mem_append_right _ h)) (by decide +kernel))
set_option maxRecDepth 20000 in
theorem gX0_gainOf_X0_isAsked : GoodIn wsX0_gainOf (wsV RX0 102 RX0 yX0_isAsked wsX0_isAsked) := goodIn_app (goodIn_of _ (by decide +kernel)) ggX0_gainOf_X0_isAsked
theorem dX0_gainOf_6 : decode cX0_gainOf 6 = .ok (.ifCond .ne 5, 3) := by decide +kernel
theorem dX0_gainOf_11 : decode cX0_gainOf 11 = .ok (.aload_n 0, 1) := by decide +kernel
theorem dX0_gainOf_12 : decode cX0_gainOf 12 = .ok (.aload_n 1, 1) := by decide +kernel
theorem dX0_gainOf_13 : decode cX0_gainOf 13 = .ok (.iload_n 2, 1) := by decide +kernel
theorem dX0_gainOf_14 : decode cX0_gainOf 14 = .ok (.invokevirtual 106, 3) := by decide +kernel
set_option maxRecDepth 20000 in
theorem ggX0_gainOf_X0_ownCost : GoodIn wsX0_gainOf wsX0_ownCost := goodIn_ca (goodIn_r _ [12, 8, 13, 14, 15, 4, 16, 6, 17, 18, 19, 20, 21, 22, 23, 24, 25, 26, 27, 28, 29, 30, 31, 32, 33, 34, 35, 36, 37, 38, 59, 60, 61, 49, 50, 51, 52, 53, 54, 55, 56, 57, 58, 62, 63, 64, 65, 66, 67, 68] (by decide +kernel) (by decide +kernel)) (goodIn_sub (fun _ h => List.mem_cons_of_mem _ (List.mem_append_right _ h)) (by decide +kernel))
set_option maxRecDepth 20000 in
theorem gX0_gainOf_X0_ownCost : GoodIn wsX0_gainOf (wsV RX0 106 RX0 yX0_ownCost wsX0_ownCost) := goodIn_app (goodIn_of _ (by decide +kernel)) ggX0_gainOf_X0_ownCost
theorem dX0_gainOf_17 : decode cX0_gainOf 17 = .ok (.aload_n 0, 1) := by decide +kernel
theorem dX0_gainOf_18 : decode cX0_gainOf 18 = .ok (.aload_n 1, 1) := by decide +kernel
theorem dX0_gainOf_19 : decode cX0_gainOf 19 = .ok (.iload_n 2, 1) := by decide +kernel
theorem dX0_gainOf_20 : decode cX0_gainOf 20 = .ok (.aload_n 0, 1) := by decide +kernel
theorem dX0_gainOf_21 : decode cX0_gainOf 21 = .ok (.aload_n 1, 1) := by decide +kernel
theorem dX0_gainOf_22 : decode cX0_gainOf 22 = .ok (.iload_n 2, 1) := by decide +kernel
theorem dX0_gainOf_23 : decode cX0_gainOf 23 = .ok (.invokevirtual 110, 3) := by decide +kernel
set_option maxRecDepth 20000 in
theorem ggX0_gainOf_X0_bestOf : GoodIn wsX0_gainOf wsX0_bestOf := goodIn_ca (goodIn_r _ [42, 8, 6, 43, 13, 14, 15, 4, 16, 17, 18, 19, 20, 21, 22, 23, 24, 25, 26, 27, 28, 29, 30, 31, 32, 33, 34, 35, 36, 37, 38, 44, 45, 46, 47, 48, 59, 60, 61, 49, 50, 51, 52, 53, 54, 55, 56, 57, 58, 62, 63, 64, 65, 66, 67, 68] (by decide +kernel) (by decide +kernel)) (goodIn_sub (fun _ h => List.mem_cons_of_mem _ (List.mem_append_right _ h)) (by decide +kernel))
set_option maxRecDepth 20000 in
theorem gX0_gainOf_X0_bestOf : GoodIn wsX0_gainOf (wsV RX0 110 RX0 yX0_bestOf wsX0_bestOf) := goodIn_app (goodIn_of _ (by decide +kernel)) ggX0_gainOf_X0_bestOf
theorem dX0_gainOf_26 : decode cX0_gainOf 26 = .ok (.invokevirtual 94, 3) := by decide +kernel
set_option maxRecDepth 20000 in
theorem ggX0_gainOf_X0_costAlone : GoodIn wsX0_gainOf wsX0_costAlone := goodIn_ca (goodIn_r _ [16, 6, 8, 17, 18, 19, 20, 21, 22, 23, 24, 25, 26, 27, 28, 29, 30, 31, 32, 33, 34, 35, 36, 37, 38, 49, 50, 51, 52, 59, 60, 61, 53, 54, 55, 56, 57, 58, 62, 63, 64, 65, 66, 67, 68] (by decide +kernel) (by decide +kernel)) (goodIn_sub (fun _ h => List.mem_cons_of_mem _ (List.mem_append_right _ h)) (by decide +kernel))
set_option maxRecDepth 20000 in
theorem gX0_gainOf_X0_costAlone : GoodIn wsX0_gainOf (wsV RX0 94 RX0 yX0_costAlone wsX0_costAlone) := goodIn_app (goodIn_of _ (by decide +kernel)) ggX0_gainOf_X0_costAlone
theorem dX0_gainOf_29 : decode cX0_gainOf 29 = .ok (.isub, 1) := by decide +kernel
theorem dX0_gainOf_30 : decode cX0_gainOf 30 = .ok (.ireturn, 1) := by decide +kernel
theorem dX0_gainOf_9 : decode cX0_gainOf 9 = .ok (.iconst 0, 1) := by decide +kernel
theorem dX0_gainOf_10 : decode cX0_gainOf 10 = .ok (.ireturn, 1) := by decide +kernel
set_option maxHeartbeats 4000000 in
set_option maxRecDepth 100000 in
theorem b_X0_gainOf {X : VC} {μ : Mem} (y : Nat) (p : Nat) (hy : y < 2) (hp : p < 6) (hW : WF μ) (hB : PB μ y) (K : vK X cX0_gainOf 3 RX0 wsX0_gainOf ({ frames := 3, cells := 0, slots := 0, locals := 76 } : Room)) (hret : ∀ (z : Int) (ν : Mem), (fun (z : Int) (ν : Mem) => z = gn μ y p ∧ ν = μ) z ν → ∀ n pc k1 k2 lv, k1 ≤ 0 → k2 ≤ 0 → decode cX0_gainOf pc = .ok (.ireturn, 1) → vW X n pc k1 k2 lv [.int (iZ z)] ν) : vW X 3 0 0 0 [(0, .ref (vAd X 1)), (1, .ref (vAd X (2 + y))), (2, .int (iZ (p : Int)))] [] μ := by
  have h0 := ask_01 μ y p
  have hbs := bst_rng hW hp hB
  refine v_aload_n 0 K dX0_gainOf_0 rfl ?_
  refine v_aload_n 1 K dX0_gainOf_1 rfl ?_
  refine v_iload_n 2 K dX0_gainOf_2 rfl ?_
  refine v_callVir (c := 1) (As := [.ref (vAd X (2 + y)), .int (iZ (p : Int))]) (rest := []) K isO_Bd rfl 2 (c_X0_isAsked X.1.2.1 K.2.2.2.2.2.2 _ _ _ μ y p hy hp hW hB) gX0_gainOf_X0_isAsked rfl rfl rfl (by decide +kernel) ⟨(Nat.le_of_ble_eq_true rfl), (Nat.le_of_ble_eq_true rfl)⟩ rfl rfl (Nat.le_of_ble_eq_true rfl) dX0_gainOf_3 ⟨(Nat.le_of_ble_eq_true rfl), (Nat.le_of_ble_eq_true rfl)⟩ ?_
  refine v_if_ne 11 K dX0_gainOf_6 (by decide) (by omega) (fun c6 => ?_) (fun c6 => ?_)
  · refine v_aload_n 0 K dX0_gainOf_11 rfl ?_
    refine v_aload_n 1 K dX0_gainOf_12 rfl ?_
    refine v_iload_n 2 K dX0_gainOf_13 rfl ?_
    refine v_callVir (c := 1) (As := [.ref (vAd X (2 + y)), .int (iZ (p : Int))]) (rest := []) K isO_Bd rfl 2 (c_X0_ownCost X.1.2.1 K.2.2.2.2.2.2 _ _ _ μ y p hy hp hW hB) gX0_gainOf_X0_ownCost rfl rfl rfl (by decide +kernel) ⟨(Nat.le_of_ble_eq_true rfl), (Nat.le_of_ble_eq_true rfl)⟩ rfl rfl (Nat.le_of_ble_eq_true rfl) dX0_gainOf_14 ⟨(Nat.le_of_ble_eq_true rfl), (Nat.le_of_ble_eq_true rfl)⟩ ?_
    refine v_aload_n 0 K dX0_gainOf_17 rfl ?_
    refine v_aload_n 1 K dX0_gainOf_18 rfl ?_
    refine v_iload_n 2 K dX0_gainOf_19 rfl ?_
    refine v_aload_n 0 K dX0_gainOf_20 rfl ?_
    refine v_aload_n 1 K dX0_gainOf_21 rfl ?_
    refine v_iload_n 2 K dX0_gainOf_22 rfl ?_
    refine v_callVir (c := 1) (As := [.ref (vAd X (2 + y)), .int (iZ (p : Int))]) (rest := [.int (iZ (p : Int)), .ref (vAd X (2 + y)), .ref (vAd X 1), .int (iZ (cst μ y p (μ (5 + 2 * y) p)))]) K isO_Bd rfl 2 (c_X0_bestOf X.1.2.1 K.2.2.2.2.2.2 _ _ _ μ y p hy hp hW hB) gX0_gainOf_X0_bestOf rfl rfl rfl (by decide +kernel) ⟨(Nat.le_of_ble_eq_true rfl), (Nat.le_of_ble_eq_true rfl)⟩ rfl rfl (Nat.le_of_ble_eq_true rfl) dX0_gainOf_23 ⟨(Nat.le_of_ble_eq_true rfl), (Nat.le_of_ble_eq_true rfl)⟩ ?_
    refine v_callVir (c := 1) (As := [.ref (vAd X (2 + y)), .int (iZ (p : Int)), .int (iZ (bst μ y p))]) (rest := [.int (iZ (cst μ y p (μ (5 + 2 * y) p)))]) K isO_Bd rfl 3 (c_X0_costAlone X.1.2.1 K.2.2.2.2.2.2 _ _ _ μ y p (bst μ y p) hy hp hW hB (by omega)) gX0_gainOf_X0_costAlone rfl rfl rfl (by decide +kernel) ⟨(Nat.le_of_ble_eq_true rfl), (Nat.le_of_ble_eq_true rfl)⟩ rfl rfl (Nat.le_of_ble_eq_true rfl) dX0_gainOf_26 ⟨(Nat.le_of_ble_eq_true rfl), (Nat.le_of_ble_eq_true rfl)⟩ ?_
    refine v_isub K dX0_gainOf_29 ?_
    exact hret _ _ ⟨(by unfold gn; rw [if_pos (by omega)]), rfl⟩ _ _ _ _ _ (Nat.le_of_ble_eq_true rfl) (Nat.le_of_ble_eq_true rfl) dX0_gainOf_30
  · refine v_iconst K dX0_gainOf_9 ?_
    exact hret _ _ ⟨(by unfold gn; rw [if_neg (by omega)]), rfl⟩ _ _ _ _ _ (Nat.le_of_ble_eq_true rfl) (Nat.le_of_ble_eq_true rfl) dX0_gainOf_10
theorem c_X0_gainOf (l : Launch) (hl : l.stackTraces = false) (D : va_G) (cy : Nat → ClassId) (ad : Nat → Nat) (μ : Mem) (y : Nat) (p : Nat) (hy : y < 2) (hp : p < 6) (hW : WF μ) (hB : PB μ y) : cI l yX0_gainOf wsX0_gainOf ({ frames := 3, cells := 0, slots := 0, locals := 76 } : Room) D cy ad μ [.ref (ad 1), .ref (ad (2 + y)), .int (iZ (p : Int))] (fun (z : Int) (ν : Mem) => z = gn μ y p ∧ ν = μ) :=
  m_int (av := (fun ad => [.ref (ad 1), .ref (ad (2 + y)), .int (iZ (p : Int))])) hl (by decide) rfl rfl (Nat.le_of_ble_eq_true rfl) (fun _ _ _ => rfl) (fun X K hret => b_X0_gainOf y p hy hp hW hB K hret)
theorem dJ9_floorMod_7cf53_0 : decode cJ9_floorMod_7cf53 0 = .ok (.iload_n 0, 1) := by decide +kernel
theorem dJ9_floorMod_7cf53_1 : decode cJ9_floorMod_7cf53 1 = .ok (.iload_n 1, 1) := by decide +kernel
theorem dJ9_floorMod_7cf53_2 : decode cJ9_floorMod_7cf53 2 = .ok (.irem, 1) := by decide +kernel
theorem dJ9_floorMod_7cf53_3 : decode cJ9_floorMod_7cf53 3 = .ok (.istore_n 2, 1) := by decide +kernel
theorem dJ9_floorMod_7cf53_4 : decode cJ9_floorMod_7cf53 4 = .ok (.iload_n 0, 1) := by decide +kernel
theorem dJ9_floorMod_7cf53_5 : decode cJ9_floorMod_7cf53 5 = .ok (.iload_n 1, 1) := by decide +kernel
theorem dJ9_floorMod_7cf53_6 : decode cJ9_floorMod_7cf53 6 = .ok (.ixor, 1) := by decide +kernel
theorem dJ9_floorMod_7cf53_7 : decode cJ9_floorMod_7cf53 7 = .ok (.ifCond .ge 11, 3) := by decide +kernel
theorem dJ9_floorMod_7cf53_18 : decode cJ9_floorMod_7cf53 18 = .ok (.iload_n 2, 1) := by decide +kernel
theorem dJ9_floorMod_7cf53_19 : decode cJ9_floorMod_7cf53 19 = .ok (.ireturn, 1) := by decide +kernel
set_option maxHeartbeats 4000000 in
set_option maxRecDepth 100000 in
theorem b_J9_floorMod_7cf53 {X : VC} {μ : Mem} (a : Int) (b : Int) (ha : 0 ≤ a ∧ a ≤ 2147483647) (hb : 0 < b ∧ b ≤ 2147483647) (K : vK X cJ9_floorMod_7cf53 3 RJ9 wsJ9_floorMod_7cf53 ({ frames := 0, cells := 0, slots := 0, locals := 0 } : Room)) (hret : ∀ (z : Int) (ν : Mem), (fun (z : Int) (ν : Mem) => z = a % b ∧ ν = μ) z ν → ∀ n pc k1 k2 lv, k1 ≤ 0 → k2 ≤ 0 → decode cJ9_floorMod_7cf53 pc = .ok (.ireturn, 1) → vW X n pc k1 k2 lv [.int (iZ z)] ν) : vW X 3 0 0 0 [(0, .int (iZ a)), (1, .int (iZ b))] [] μ := by
  obtain ⟨hx1, hx2⟩ := iZ_xor ha (show 0 ≤ b ∧ b ≤ 2147483647 by omega)
  refine v_iload_n 0 K dJ9_floorMod_7cf53_0 rfl ?_
  refine v_iload_n 1 K dJ9_floorMod_7cf53_1 rfl ?_
  refine v_irem (by omega) (by omega) K dJ9_floorMod_7cf53_2 ?_
  refine v_istore_n [(2, .int (iZ (a % b))), (0, .int (iZ a)), (1, .int (iZ b))] K dJ9_floorMod_7cf53_3 (by decide) rfl ?_
  refine v_iload_n 1 K dJ9_floorMod_7cf53_4 rfl ?_
  refine v_iload_n 2 K dJ9_floorMod_7cf53_5 rfl ?_
  refine v_ixor (z := ((a.toNat ^^^ b.toNat : Nat) : Int)) hx1 K dJ9_floorMod_7cf53_6 ?_
  refine v_if_ge 18 K dJ9_floorMod_7cf53_7 (by decide) (by omega) (fun c7 => ?_) (fun c7 => (by exfalso; omega))
  refine v_iload_n 0 K dJ9_floorMod_7cf53_18 rfl ?_
  exact hret _ _ ⟨rfl, rfl⟩ _ _ _ _ _ (Nat.le_of_ble_eq_true rfl) (Nat.le_of_ble_eq_true rfl) dJ9_floorMod_7cf53_19
theorem c_J9_floorMod_7cf53 (l : Launch) (hl : l.stackTraces = false) (D : va_G) (cy : Nat → ClassId) (ad : Nat → Nat) (μ : Mem) (a : Int) (b : Int) (ha : 0 ≤ a ∧ a ≤ 2147483647) (hb : 0 < b ∧ b ≤ 2147483647) : cI l yJ9_floorMod_7cf53 wsJ9_floorMod_7cf53 ({ frames := 0, cells := 0, slots := 0, locals := 0 } : Room) D cy ad μ [.int (iZ a), .int (iZ b)] (fun (z : Int) (ν : Mem) => z = a % b ∧ ν = μ) :=
  m_intF (av := (fun ad => [.int (iZ a), .int (iZ b)])) hl (by decide +kernel) rfl rfl (Nat.le_of_ble_eq_true rfl) (fun _ _ _ => rfl) (fun X K hret => b_J9_floorMod_7cf53 a b ha hb K hret)
theorem dX0_firstToGain_0 : decode cX0_firstToGain 0 = .ok (.iconst 0, 1) := by decide +kernel
theorem dX0_firstToGain_1 : decode cX0_firstToGain 1 = .ok (.istore_n 3, 1) := by decide +kernel
theorem dX0_firstToGain_2 : decode cX0_firstToGain 2 = .ok (.iload_n 3, 1) := by decide +kernel
theorem dX0_firstToGain_3 : decode cX0_firstToGain 3 = .ok (.aload_n 0, 1) := by decide +kernel
theorem dX0_firstToGain_4 : decode cX0_firstToGain 4 = .ok (.getfield 42, 3) := by decide +kernel
theorem dX0_firstToGain_7 : decode cX0_firstToGain 7 = .ok (.if_icmp .ge 34, 3) := by decide +kernel
theorem dX0_firstToGain_41 : decode cX0_firstToGain 41 = .ok (.iconst (-1), 1) := by decide +kernel
theorem dX0_firstToGain_42 : decode cX0_firstToGain 42 = .ok (.ireturn, 1) := by decide +kernel
theorem dX0_firstToGain_10 : decode cX0_firstToGain 10 = .ok (.iload_n 2, 1) := by decide +kernel
theorem dX0_firstToGain_11 : decode cX0_firstToGain 11 = .ok (.iload_n 3, 1) := by decide +kernel
theorem dX0_firstToGain_12 : decode cX0_firstToGain 12 = .ok (.iadd, 1) := by decide +kernel
theorem dX0_firstToGain_13 : decode cX0_firstToGain 13 = .ok (.aload_n 0, 1) := by decide +kernel
theorem dX0_firstToGain_14 : decode cX0_firstToGain 14 = .ok (.getfield 42, 3) := by decide +kernel
theorem dX0_firstToGain_17 : decode cX0_firstToGain 17 = .ok (.invokestatic 113, 3) := by decide +kernel
set_option maxRecDepth 20000 in
theorem ggX0_firstToGain_J9_floorMod_7cf53 : GoodIn wsX0_firstToGain wsJ9_floorMod_7cf53 := goodIn_r _ [5] (by decide +kernel) (by decide +kernel)
set_option maxRecDepth 20000 in
theorem gX0_firstToGain_J9_floorMod_7cf53 : GoodIn wsX0_firstToGain (va_wsS RX0 113 yJ9_floorMod_7cf53 wsJ9_floorMod_7cf53) := goodIn_app (goodIn_of _ (by decide +kernel)) ggX0_firstToGain_J9_floorMod_7cf53
theorem dX0_firstToGain_20 : decode cX0_firstToGain 20 = .ok (.istore 4, 2) := by decide +kernel
theorem dX0_firstToGain_22 : decode cX0_firstToGain 22 = .ok (.aload_n 0, 1) := by decide +kernel
theorem dX0_firstToGain_23 : decode cX0_firstToGain 23 = .ok (.aload_n 1, 1) := by decide +kernel
theorem dX0_firstToGain_24 : decode cX0_firstToGain 24 = .ok (.iload 4, 2) := by decide +kernel
theorem dX0_firstToGain_26 : decode cX0_firstToGain 26 = .ok (.invokevirtual 119, 3) := by decide +kernel
set_option maxRecDepth 20000 in
theorem ggX0_firstToGain_X0_gainOf : GoodIn wsX0_firstToGain wsX0_gainOf := goodIn_ca (goodIn_r _ [10, 11, 12, 13, 9, 14, 15, 16, 17, 18, 19, 20, 21, 22, 23, 24, 25, 26, 27, 28, 29, 30, 31, 32, 33, 34, 35, 36, 37, 38, 39, 40, 41, 42, 43, 44, 45, 46, 47, 48, 49, 50, 51, 52, 53, 54, 55, 56, 57, 58, 59, 60, 61, 62, 63, 64, 65, 66, 67, 68, 69, 70, 71, 72, 73, 74, 75, 76, 77] (by decide +kernel) (by decide +kernel)) (goodIn_sub (fun _ h => List.mem_cons_of_mem _ (List.mem_append_right _ h)) (by decide +kernel))
set_option maxRecDepth 20000 in
theorem gX0_firstToGain_X0_gainOf : GoodIn wsX0_firstToGain (wsV RX0 119 RX0 yX0_gainOf wsX0_gainOf) := goodIn_app (goodIn_of _ (by decide +kernel)) ggX0_firstToGain_X0_gainOf
theorem dX0_firstToGain_29 : decode cX0_firstToGain 29 = .ok (.ifCond .le 6, 3) := by decide +kernel
theorem dX0_firstToGain_35 : decode cX0_firstToGain 35 = .ok (.iinc 3 1, 3) := by decide +kernel
theorem dX0_firstToGain_38 : decode cX0_firstToGain 38 = .ok (.goto (-36), 3) := by decide +kernel
theorem dX0_firstToGain_32 : decode cX0_firstToGain 32 = .ok (.iload 4, 2) := by decide +kernel
theorem dX0_firstToGain_34 : decode cX0_firstToGain 34 = .ok (.ireturn, 1) := by decide +kernel
set_option maxHeartbeats 4000000 in
set_option maxRecDepth 100000 in
theorem b_X0_firstToGain {X : VC} {μ : Mem} (y : Nat) (s : Nat) (hy : y < 2) (hs : s ≤ 100) (hW : WF μ) (hB : PB μ y) (K : vK X cX0_firstToGain 5 RX0 wsX0_firstToGain ({ frames := 4, cells := 0, slots := 0, locals := 98 } : Room)) (hret : ∀ (z : Int) (ν : Mem), (fun (z : Int) (ν : Mem) => ν = μ ∧ (FG μ y s z)) z ν → ∀ n pc k1 k2 lv, k1 ≤ 0 → k2 ≤ 0 → decode cX0_firstToGain pc = .ok (.ireturn, 1) → vW X n pc k1 k2 lv [.int (iZ z)] ν) : vW X 5 0 0 0 [(0, .ref (vAd X 1)), (1, .ref (vAd X (2 + y))), (2, .int (iZ (s : Int)))] [] μ := by
  have hpc := hW.pc6
  refine v_iconst K dX0_firstToGain_0 ?_
  refine v_istore_n [(3, .int (iZ 0)), (0, .ref (vAd X 1)), (1, .ref (vAd X (2 + y))), (2, .int (iZ (s : Int)))] K dX0_firstToGain_1 (by decide) rfl ?_
  have L2 : ∀ (fuel : Nat) (k : Nat) (hm : 7 - k < fuel) (hk : k ≤ pcn μ) (hn : ∀ j : Nat, j < k → gn μ y ((s + j) % pcn μ) ≤ 0), vW X 5 2 0 0 [(0, .ref (vAd X 1)), (1, .ref (vAd X (2 + y))), (2, .int (iZ (s : Int))), (3, .int (iZ (k : Int)))] [] μ := by
    intro fuel
    induction fuel with
    | zero => intro k hm; exact absurd hm (Nat.not_lt_zero _)
    | succ fuel ih2 =>
      intro k hm hk hn
      refine v_iload_n 3 K dX0_firstToGain_2 rfl ?_
      refine v_aload_n 0 K dX0_firstToGain_3 rfl ?_
      refine v_get (c := 1) (k := 3) (C := RX0) (T := TX0) (N := 4) (v := .int (iZ (μ 1 3))) K isO_Bd rfl (fun _ h => (List.mem_cons_of_mem _ (List.mem_append_left _ (List.mem_append_left _ (List.mem_append_left _ (List.mem_append_left _ (List.mem_append_right _ h))))))) (by decide) (List.mem_cons_of_mem _ (List.mem_append_left _ (List.mem_append_left _ (List.mem_append_left _ (List.mem_append_left _ (List.mem_append_left _ (List.mem_append_left _ (List.mem_of_getElem? (i := 0) rfl)))))))) rfl dX0_firstToGain_4 rfl ?_
      refine v_icmp_ge 41 K dX0_firstToGain_7 (by decide) (by omega) (by omega) (fun c7 => ?_) (fun c7 => ?_)
      · refine v_iconst K dX0_firstToGain_41 ?_
        exact hret _ _ ⟨rfl, Or.inl ⟨rfl, fun j hj => hn j (by omega)⟩⟩ _ _ _ _ _ (Nat.le_of_ble_eq_true rfl) (Nat.le_of_ble_eq_true rfl) dX0_firstToGain_42
      · have hm : (s + k) % pcn μ < pcn μ := Nat.mod_lt _ (by omega)
        have hg := gn_rng hW (y := y) (p := (s + k) % pcn μ) (by omega)
        refine v_iload_n 2 K dX0_firstToGain_10 rfl ?_
        refine v_iload_n 3 K dX0_firstToGain_11 rfl ?_
        refine v_iadd K dX0_firstToGain_12 ?_
        refine v_aload_n 0 K dX0_firstToGain_13 rfl ?_
        refine v_get (c := 1) (k := 3) (C := RX0) (T := TX0) (N := 4) (v := .int (iZ (μ 1 3))) K isO_Bd rfl (fun _ h => (List.mem_cons_of_mem _ (List.mem_append_left _ (List.mem_append_left _ (List.mem_append_left _ (List.mem_append_left _ (List.mem_append_right _ h))))))) (by decide) (List.mem_cons_of_mem _ (List.mem_append_left _ (List.mem_append_left _ (List.mem_append_left _ (List.mem_append_left _ (List.mem_append_left _ (List.mem_append_left _ (List.mem_of_getElem? (i := 0) rfl)))))))) rfl dX0_firstToGain_14 rfl ?_
        refine v_callSir (As := [.int (iZ ((s : Int) + (k : Int))), .int (iZ (μ 1 3))]) (rest := []) K 2 (c_J9_floorMod_7cf53 X.1.2.1 K.2.2.2.2.2.2 _ _ _ μ ((s : Int) + (k : Int)) (μ 1 3) (by omega) (by omega)) gX0_firstToGain_J9_floorMod_7cf53 rfl rfl rfl (by decide +kernel) ⟨(Nat.le_of_ble_eq_true rfl), (Nat.le_of_ble_eq_true rfl)⟩ rfl rfl (Nat.le_of_ble_eq_true rfl) dX0_firstToGain_17 ⟨(Nat.le_of_ble_eq_true rfl), (Nat.le_of_ble_eq_true rfl)⟩ ?_
        refine v_top (b := ((((s + k) % pcn μ) : Nat) : Int)) (congrArg iZ (by rw [hpc.2]; first | rfl | simp)) ?_
        refine v_istore [(4, .int (iZ ((((s + k) % pcn μ) : Nat) : Int))), (0, .ref (vAd X 1)), (1, .ref (vAd X (2 + y))), (2, .int (iZ (s : Int))), (3, .int (iZ (k : Int)))] K dX0_firstToGain_20 (by decide) rfl ?_
        refine v_aload_n 1 K dX0_firstToGain_22 rfl ?_
        refine v_aload_n 2 K dX0_firstToGain_23 rfl ?_
        refine v_iload 0 K dX0_firstToGain_24 rfl ?_
        refine v_callVir (c := 1) (As := [.ref (vAd X (2 + y)), .int (iZ ((((s + k) % pcn μ) : Nat) : Int))]) (rest := []) K isO_Bd rfl 2 (c_X0_gainOf X.1.2.1 K.2.2.2.2.2.2 _ _ _ μ y ((s + k) % pcn μ) hy (by omega) hW hB) gX0_firstToGain_X0_gainOf rfl rfl rfl (by decide +kernel) ⟨(Nat.le_of_ble_eq_true rfl), (Nat.le_of_ble_eq_true rfl)⟩ rfl rfl (Nat.le_of_ble_eq_true rfl) dX0_firstToGain_26 ⟨(Nat.le_of_ble_eq_true rfl), (Nat.le_of_ble_eq_true rfl)⟩ ?_
        refine v_if_le 35 K dX0_firstToGain_29 (by decide) (by omega) (fun c29 => ?_) (fun c29 => ?_)
        · refine v_iinc 4 [(3, .int (iZ ((k : Int) + 1))), (4, .int (iZ ((((s + k) % pcn μ) : Nat) : Int))), (0, .ref (vAd X 1)), (1, .ref (vAd X (2 + y))), (2, .int (iZ (s : Int)))] K dX0_firstToGain_35 rfl (by decide) rfl ?_
          refine v_goto 2 K dX0_firstToGain_38 (by decide) ?_
          refine v_sub [2, 3, 4, 0] rfl ?_
          refine v_eq (lv1 := [(0, .ref (vAd X 1)), (1, .ref (vAd X (2 + y))), (2, .int (iZ (s : Int))), (3, .int (iZ (((k + 1) : Nat) : Int)))]) (st1 := []) (v_c0 (v_c0 (v_c0 (v_cI (by first | rfl | omega) rfl)))) rfl ?_
          exact ih2 (k + 1) (by omega) (by omega) (fun j hj => by rcases (show j < k ∨ j = k by omega) with q | q; exact hn j q; rw [q]; omega)
        · refine v_iload 0 K dX0_firstToGain_32 rfl ?_
          exact hret _ _ ⟨rfl, Or.inr ⟨k, (by omega), (by omega), rfl, hn⟩⟩ _ _ _ _ _ (Nat.le_of_ble_eq_true rfl) (Nat.le_of_ble_eq_true rfl) dX0_firstToGain_34
  refine v_sub [1, 2, 3, 0] rfl ?_
  refine v_eq (lv1 := [(0, .ref (vAd X 1)), (1, .ref (vAd X (2 + y))), (2, .int (iZ (s : Int))), (3, .int (iZ ((0 : Nat) : Int)))]) (st1 := []) (v_c0 (v_c0 (v_c0 (v_cI (by first | rfl | omega) rfl)))) rfl ?_
  exact L2 (7 - 0 + 1) 0 (by omega) (by omega) (fun j hj => by omega)
theorem c_X0_firstToGain (l : Launch) (hl : l.stackTraces = false) (D : va_G) (cy : Nat → ClassId) (ad : Nat → Nat) (μ : Mem) (y : Nat) (s : Nat) (hy : y < 2) (hs : s ≤ 100) (hW : WF μ) (hB : PB μ y) : cI l yX0_firstToGain wsX0_firstToGain ({ frames := 4, cells := 0, slots := 0, locals := 98 } : Room) D cy ad μ [.ref (ad 1), .ref (ad (2 + y)), .int (iZ (s : Int))] (fun (z : Int) (ν : Mem) => ν = μ ∧ (FG μ y s z)) :=
  m_int (av := (fun ad => [.ref (ad 1), .ref (ad (2 + y)), .int (iZ (s : Int))])) hl (by decide) rfl rfl (Nat.le_of_ble_eq_true rfl) (fun _ _ _ => rfl) (fun X K hret => b_X0_firstToGain y s hy hs hW hB K hret)
theorem dX0_mostToGain_0 : decode cX0_mostToGain 0 = .ok (.iconst (-1), 1) := by decide +kernel
theorem dX0_mostToGain_1 : decode cX0_mostToGain 1 = .ok (.istore_n 2, 1) := by decide +kernel
theorem dX0_mostToGain_2 : decode cX0_mostToGain 2 = .ok (.iconst 0, 1) := by decide +kernel
theorem dX0_mostToGain_3 : decode cX0_mostToGain 3 = .ok (.istore_n 3, 1) := by decide +kernel
theorem dX0_mostToGain_4 : decode cX0_mostToGain 4 = .ok (.iconst 0, 1) := by decide +kernel
theorem dX0_mostToGain_5 : decode cX0_mostToGain 5 = .ok (.istore 4, 2) := by decide +kernel
theorem dX0_mostToGain_7 : decode cX0_mostToGain 7 = .ok (.iload 4, 2) := by decide +kernel
theorem dX0_mostToGain_9 : decode cX0_mostToGain 9 = .ok (.aload_n 0, 1) := by decide +kernel
theorem dX0_mostToGain_10 : decode cX0_mostToGain 10 = .ok (.getfield 42, 3) := by decide +kernel
theorem dX0_mostToGain_13 : decode cX0_mostToGain 13 = .ok (.if_icmp .ge 30, 3) := by decide +kernel
theorem dX0_mostToGain_43 : decode cX0_mostToGain 43 = .ok (.iload_n 2, 1) := by decide +kernel
theorem dX0_mostToGain_44 : decode cX0_mostToGain 44 = .ok (.ireturn, 1) := by decide +kernel
theorem dX0_mostToGain_16 : decode cX0_mostToGain 16 = .ok (.aload_n 0, 1) := by decide +kernel
theorem dX0_mostToGain_17 : decode cX0_mostToGain 17 = .ok (.aload_n 1, 1) := by decide +kernel
theorem dX0_mostToGain_18 : decode cX0_mostToGain 18 = .ok (.iload 4, 2) := by decide +kernel
theorem dX0_mostToGain_20 : decode cX0_mostToGain 20 = .ok (.invokevirtual 119, 3) := by decide +kernel
set_option maxRecDepth 20000 in
theorem ggX0_mostToGain_X0_gainOf : GoodIn wsX0_mostToGain wsX0_gainOf := goodIn_ca (goodIn_r _ [6, 7, 8, 9, 5, 10, 11, 12, 13, 14, 15, 16, 17, 18, 19, 20, 21, 22, 23, 24, 25, 26, 27, 28, 29, 30, 31, 32, 33, 34, 35, 36, 37, 38, 39, 40, 41, 42, 43, 44, 45, 46, 47, 48, 49, 50, 51, 52, 53, 54, 55, 56, 57, 58, 59, 60, 61, 62, 63, 64, 65, 66, 67, 68, 69, 70, 71, 72, 73] (by decide +kernel) (by decide +kernel)) (goodIn_sub (fun _ h => List.mem_cons_of_mem _ (List.mem_append_right _ h)) (by decide +kernel))
set_option maxRecDepth 20000 in
theorem gX0_mostToGain_X0_gainOf : GoodIn wsX0_mostToGain (wsV RX0 119 RX0 yX0_gainOf wsX0_gainOf) := goodIn_app (goodIn_of _ (by decide +kernel)) ggX0_mostToGain_X0_gainOf
theorem dX0_mostToGain_23 : decode cX0_mostToGain 23 = .ok (.istore 5, 2) := by decide +kernel
theorem dX0_mostToGain_25 : decode cX0_mostToGain 25 = .ok (.iload 5, 2) := by decide +kernel
theorem dX0_mostToGain_27 : decode cX0_mostToGain 27 = .ok (.iload_n 3, 1) := by decide +kernel
theorem dX0_mostToGain_28 : decode cX0_mostToGain 28 = .ok (.if_icmp .le 9, 3) := by decide +kernel
theorem dX0_mostToGain_37 : decode cX0_mostToGain 37 = .ok (.iinc 4 1, 3) := by decide +kernel
theorem dX0_mostToGain_40 : decode cX0_mostToGain 40 = .ok (.goto (-33), 3) := by decide +kernel
theorem dX0_mostToGain_31 : decode cX0_mostToGain 31 = .ok (.iload 4, 2) := by decide +kernel
theorem dX0_mostToGain_33 : decode cX0_mostToGain 33 = .ok (.istore_n 2, 1) := by decide +kernel
theorem dX0_mostToGain_34 : decode cX0_mostToGain 34 = .ok (.iload 5, 2) := by decide +kernel
theorem dX0_mostToGain_36 : decode cX0_mostToGain 36 = .ok (.istore_n 3, 1) := by decide +kernel
set_option maxHeartbeats 4000000 in
set_option maxRecDepth 100000 in
theorem b_X0_mostToGain {X : VC} {μ : Mem} (y : Nat) (hy : y < 2) (hW : WF μ) (hB : PB μ y) (K : vK X cX0_mostToGain 6 RX0 wsX0_mostToGain ({ frames := 4, cells := 0, slots := 0, locals := 98 } : Room)) (hret : ∀ (z : Int) (ν : Mem), (fun (z : Int) (ν : Mem) => z = (mgF μ y (pcn μ)).1 ∧ ν = μ) z ν → ∀ n pc k1 k2 lv, k1 ≤ 0 → k2 ≤ 0 → decode cX0_mostToGain pc = .ok (.ireturn, 1) → vW X n pc k1 k2 lv [.int (iZ z)] ν) : vW X 6 0 0 0 [(0, .ref (vAd X 1)), (1, .ref (vAd X (2 + y)))] [] μ := by
  have hpc := hW.pc6
  refine v_iconst K dX0_mostToGain_0 ?_
  refine v_istore_n [(2, .int (iZ (-1))), (0, .ref (vAd X 1)), (1, .ref (vAd X (2 + y)))] K dX0_mostToGain_1 (by decide) rfl ?_
  refine v_iconst K dX0_mostToGain_2 ?_
  refine v_istore_n [(3, .int (iZ 0)), (2, .int (iZ (-1))), (0, .ref (vAd X 1)), (1, .ref (vAd X (2 + y)))] K dX0_mostToGain_3 (by decide) rfl ?_
  refine v_iconst K dX0_mostToGain_4 ?_
  refine v_istore [(4, .int (iZ 0)), (3, .int (iZ 0)), (2, .int (iZ (-1))), (0, .ref (vAd X 1)), (1, .ref (vAd X (2 + y)))] K dX0_mostToGain_5 (by decide) rfl ?_
  have L7 : ∀ (fuel : Nat) (k : Nat) (hm : 7 - k < fuel) (hk : k ≤ pcn μ), vW X 6 7 0 0 [(0, .ref (vAd X 1)), (1, .ref (vAd X (2 + y))), (2, .int (iZ ((mgF μ y k).1))), (3, .int (iZ ((mgF μ y k).2))), (4, .int (iZ (k : Int)))] [] μ := by
    intro fuel
    induction fuel with
    | zero => intro k hm; exact absurd hm (Nat.not_lt_zero _)
    | succ fuel ih7 =>
      intro k hm hk
      refine v_iload 4 K dX0_mostToGain_7 rfl ?_
      refine v_aload_n 0 K dX0_mostToGain_9 rfl ?_
      refine v_get (c := 1) (k := 3) (C := RX0) (T := TX0) (N := 4) (v := .int (iZ (μ 1 3))) K isO_Bd rfl (fun _ h => (List.mem_cons_of_mem _ (List.mem_append_left _ (List.mem_append_left _ (List.mem_append_left _ (List.mem_append_left _ (List.mem_append_right _ h))))))) (by decide) (List.mem_cons_of_mem _ (List.mem_append_left _ (List.mem_append_left _ (List.mem_append_left _ (List.mem_append_left _ (List.mem_append_left _ (List.mem_append_left _ (List.mem_of_getElem? (i := 0) rfl)))))))) rfl dX0_mostToGain_10 rfl ?_
      refine v_icmp_ge 43 K dX0_mostToGain_13 (by decide) (by omega) (by omega) (fun c13 => ?_) (fun c13 => ?_)
      · refine v_iload_n 2 K dX0_mostToGain_43 rfl ?_
        exact hret _ _ ⟨(by rw [show pcn μ = k by omega]), rfl⟩ _ _ _ _ _ (Nat.le_of_ble_eq_true rfl) (Nat.le_of_ble_eq_true rfl) dX0_mostToGain_44
      · have hg := gn_rng hW (y := y) (p := k) (by omega)
        have hg2 := mgF_rng hW (y := y) k (by omega)
        refine v_aload_n 0 K dX0_mostToGain_16 rfl ?_
        refine v_aload_n 1 K dX0_mostToGain_17 rfl ?_
        refine v_iload 4 K dX0_mostToGain_18 rfl ?_
        refine v_callVir (c := 1) (As := [.ref (vAd X (2 + y)), .int (iZ (k : Int))]) (rest := []) K isO_Bd rfl 2 (c_X0_gainOf X.1.2.1 K.2.2.2.2.2.2 _ _ _ μ y k hy (by omega) hW hB) gX0_mostToGain_X0_gainOf rfl rfl rfl (by decide +kernel) ⟨(Nat.le_of_ble_eq_true rfl), (Nat.le_of_ble_eq_true rfl)⟩ rfl rfl (Nat.le_of_ble_eq_true rfl) dX0_mostToGain_20 ⟨(Nat.le_of_ble_eq_true rfl), (Nat.le_of_ble_eq_true rfl)⟩ ?_
        refine v_istore [(5, .int (iZ (gn μ y k))), (0, .ref (vAd X 1)), (1, .ref (vAd X (2 + y))), (2, .int (iZ ((mgF μ y k).1))), (3, .int (iZ ((mgF μ y k).2))), (4, .int (iZ (k : Int)))] K dX0_mostToGain_23 (by decide) rfl ?_
        refine v_iload 0 K dX0_mostToGain_25 rfl ?_
        refine v_iload_n 4 K dX0_mostToGain_27 rfl ?_
        refine v_icmp_le 37 K dX0_mostToGain_28 (by decide) (by omega) (by omega) (fun c28 => ?_) (fun c28 => ?_)
        · refine v_iinc 5 [(4, .int (iZ ((k : Int) + 1))), (5, .int (iZ (gn μ y k))), (0, .ref (vAd X 1)), (1, .ref (vAd X (2 + y))), (2, .int (iZ ((mgF μ y k).1))), (3, .int (iZ ((mgF μ y k).2)))] K dX0_mostToGain_37 rfl (by decide) rfl ?_
          refine v_goto 7 K dX0_mostToGain_40 (by decide) ?_
          refine v_sub [2, 3, 4, 5, 0] rfl ?_
          refine v_eq (lv1 := [(0, .ref (vAd X 1)), (1, .ref (vAd X (2 + y))), (2, .int (iZ ((mgF μ y (k + 1)).1))), (3, .int (iZ ((mgF μ y (k + 1)).2))), (4, .int (iZ (((k + 1) : Nat) : Int)))]) (st1 := []) (v_c0 (v_c0 (v_cI (by first | rw [mgF_y (by omega)] | rw [mgF_n (by omega)]) (v_cI (by first | rw [mgF_y (by omega)] | rw [mgF_n (by omega)]) (v_cI (by first | rfl | omega) rfl))))) rfl ?_
          exact ih7 (k + 1) (by omega) (by omega)
        · refine v_iload 5 K dX0_mostToGain_31 rfl ?_
          refine v_istore_n [(2, .int (iZ (k : Int))), (5, .int (iZ (gn μ y k))), (0, .ref (vAd X 1)), (1, .ref (vAd X (2 + y))), (3, .int (iZ ((mgF μ y k).2))), (4, .int (iZ (k : Int)))] K dX0_mostToGain_33 (by decide) rfl ?_
          refine v_iload 1 K dX0_mostToGain_34 rfl ?_
          refine v_istore_n [(3, .int (iZ (gn μ y k))), (2, .int (iZ (k : Int))), (5, .int (iZ (gn μ y k))), (0, .ref (vAd X 1)), (1, .ref (vAd X (2 + y))), (4, .int (iZ (k : Int)))] K dX0_mostToGain_36 (by decide) rfl ?_
          refine v_iinc 5 [(4, .int (iZ ((k : Int) + 1))), (3, .int (iZ (gn μ y k))), (2, .int (iZ (k : Int))), (5, .int (iZ (gn μ y k))), (0, .ref (vAd X 1)), (1, .ref (vAd X (2 + y)))] K dX0_mostToGain_37 rfl (by decide) rfl ?_
          refine v_goto 7 K dX0_mostToGain_40 (by decide) ?_
          refine v_sub [4, 5, 2, 1, 0] rfl ?_
          refine v_eq (lv1 := [(0, .ref (vAd X 1)), (1, .ref (vAd X (2 + y))), (2, .int (iZ ((mgF μ y (k + 1)).1))), (3, .int (iZ ((mgF μ y (k + 1)).2))), (4, .int (iZ (((k + 1) : Nat) : Int)))]) (st1 := []) (v_c0 (v_c0 (v_cI (by first | rw [mgF_y (by omega)] | rw [mgF_n (by omega)]) (v_cI (by first | rw [mgF_y (by omega)] | rw [mgF_n (by omega)]) (v_cI (by first | rfl | omega) rfl))))) rfl ?_
          exact ih7 (k + 1) (by omega) (by omega)
  refine v_sub [3, 4, 2, 1, 0] rfl ?_
  refine v_eq (lv1 := [(0, .ref (vAd X 1)), (1, .ref (vAd X (2 + y))), (2, .int (iZ ((mgF μ y 0).1))), (3, .int (iZ ((mgF μ y 0).2))), (4, .int (iZ ((0 : Nat) : Int)))]) (st1 := []) (v_c0 (v_c0 (v_cI (by first | rfl | omega) (v_cI (by first | rfl | omega) (v_cI (by first | rfl | omega) rfl))))) rfl ?_
  exact L7 (7 - 0 + 1) 0 (by omega) (by omega)
theorem c_X0_mostToGain (l : Launch) (hl : l.stackTraces = false) (D : va_G) (cy : Nat → ClassId) (ad : Nat → Nat) (μ : Mem) (y : Nat) (hy : y < 2) (hW : WF μ) (hB : PB μ y) : cI l yX0_mostToGain wsX0_mostToGain ({ frames := 4, cells := 0, slots := 0, locals := 98 } : Room) D cy ad μ [.ref (ad 1), .ref (ad (2 + y))] (fun (z : Int) (ν : Mem) => z = (mgF μ y (pcn μ)).1 ∧ ν = μ) :=
  m_int (av := (fun ad => [.ref (ad 1), .ref (ad (2 + y))])) hl (by decide) rfl rfl (Nat.le_of_ble_eq_true rfl) (fun _ _ _ => rfl) (fun X K hret => b_X0_mostToGain y hy hW hB K hret)
theorem dX0_countGainers_0 : decode cX0_countGainers 0 = .ok (.iconst 0, 1) := by decide +kernel
theorem dX0_countGainers_1 : decode cX0_countGainers 1 = .ok (.istore_n 2, 1) := by decide +kernel
theorem dX0_countGainers_2 : decode cX0_countGainers 2 = .ok (.iconst 0, 1) := by decide +kernel
theorem dX0_countGainers_3 : decode cX0_countGainers 3 = .ok (.istore_n 3, 1) := by decide +kernel
theorem dX0_countGainers_4 : decode cX0_countGainers 4 = .ok (.iload_n 3, 1) := by decide +kernel
theorem dX0_countGainers_5 : decode cX0_countGainers 5 = .ok (.aload_n 0, 1) := by decide +kernel
theorem dX0_countGainers_6 : decode cX0_countGainers 6 = .ok (.getfield 42, 3) := by decide +kernel
theorem dX0_countGainers_9 : decode cX0_countGainers 9 = .ok (.if_icmp .ge 21, 3) := by decide +kernel
theorem dX0_countGainers_30 : decode cX0_countGainers 30 = .ok (.iload_n 2, 1) := by decide +kernel
theorem dX0_countGainers_31 : decode cX0_countGainers 31 = .ok (.ireturn, 1) := by decide +kernel
theorem dX0_countGainers_12 : decode cX0_countGainers 12 = .ok (.aload_n 0, 1) := by decide +kernel
theorem dX0_countGainers_13 : decode cX0_countGainers 13 = .ok (.aload_n 1, 1) := by decide +kernel
theorem dX0_countGainers_14 : decode cX0_countGainers 14 = .ok (.iload_n 3, 1) := by decide +kernel
theorem dX0_countGainers_15 : decode cX0_countGainers 15 = .ok (.invokevirtual 119, 3) := by decide +kernel
set_option maxRecDepth 20000 in
theorem ggX0_countGainers_X0_gainOf : GoodIn wsX0_countGainers wsX0_gainOf := goodIn_ca (goodIn_r _ [6, 7, 8, 9, 5, 10, 11, 12, 13, 14, 15, 16, 17, 18, 19, 20, 21, 22, 23, 24, 25, 26, 27, 28, 29, 30, 31, 32, 33, 34, 35, 36, 37, 38, 39, 40, 41, 42, 43, 44, 45, 46, 47, 48, 49, 50, 51, 52, 53, 54, 55, 56, 57, 58, 59, 60, 61, 62, 63, 64, 65, 66, 67, 68, 69, 70, 71, 72, 73] (by decide +kernel) (by decide +kernel)) (goodIn_sub (fun _ h => List.mem_cons_of_mem _ (List.mem_append_right _ h)) (by decide +kernel))
set_option maxRecDepth 20000 in
theorem gX0_countGainers_X0_gainOf : GoodIn wsX0_countGainers (wsV RX0 119 RX0 yX0_gainOf wsX0_gainOf) := goodIn_app (goodIn_of _ (by decide +kernel)) ggX0_countGainers_X0_gainOf
theorem dX0_countGainers_18 : decode cX0_countGainers 18 = .ok (.ifCond .le 6, 3) := by decide +kernel
theorem dX0_countGainers_24 : decode cX0_countGainers 24 = .ok (.iinc 3 1, 3) := by decide +kernel
theorem dX0_countGainers_27 : decode cX0_countGainers 27 = .ok (.goto (-23), 3) := by decide +kernel
theorem dX0_countGainers_21 : decode cX0_countGainers 21 = .ok (.iinc 2 1, 3) := by decide +kernel
set_option maxHeartbeats 4000000 in
set_option maxRecDepth 100000 in
theorem b_X0_countGainers {X : VC} {μ : Mem} (y : Nat) (hy : y < 2) (hW : WF μ) (hB : PB μ y) (K : vK X cX0_countGainers 4 RX0 wsX0_countGainers ({ frames := 4, cells := 0, slots := 0, locals := 98 } : Room)) (hret : ∀ (z : Int) (ν : Mem), (fun (z : Int) (ν : Mem) => z = cgF μ y (pcn μ) ∧ ν = μ) z ν → ∀ n pc k1 k2 lv, k1 ≤ 0 → k2 ≤ 0 → decode cX0_countGainers pc = .ok (.ireturn, 1) → vW X n pc k1 k2 lv [.int (iZ z)] ν) : vW X 4 0 0 0 [(0, .ref (vAd X 1)), (1, .ref (vAd X (2 + y)))] [] μ := by
  have hpc := hW.pc6
  refine v_iconst K dX0_countGainers_0 ?_
  refine v_istore_n [(2, .int (iZ 0)), (0, .ref (vAd X 1)), (1, .ref (vAd X (2 + y)))] K dX0_countGainers_1 (by decide) rfl ?_
  refine v_iconst K dX0_countGainers_2 ?_
  refine v_istore_n [(3, .int (iZ 0)), (2, .int (iZ 0)), (0, .ref (vAd X 1)), (1, .ref (vAd X (2 + y)))] K dX0_countGainers_3 (by decide) rfl ?_
  have L4 : ∀ (fuel : Nat) (k : Nat) (hm : 7 - k < fuel) (hk : k ≤ pcn μ), vW X 4 4 0 0 [(0, .ref (vAd X 1)), (1, .ref (vAd X (2 + y))), (2, .int (iZ (cgF μ y k))), (3, .int (iZ (k : Int)))] [] μ := by
    intro fuel
    induction fuel with
    | zero => intro k hm; exact absurd hm (Nat.not_lt_zero _)
    | succ fuel ih4 =>
      intro k hm hk
      refine v_iload_n 3 K dX0_countGainers_4 rfl ?_
      refine v_aload_n 0 K dX0_countGainers_5 rfl ?_
      refine v_get (c := 1) (k := 3) (C := RX0) (T := TX0) (N := 4) (v := .int (iZ (μ 1 3))) K isO_Bd rfl (fun _ h => (List.mem_cons_of_mem _ (List.mem_append_left _ (List.mem_append_left _ (List.mem_append_left _ (List.mem_append_left _ (List.mem_append_right _ h))))))) (by decide) (List.mem_cons_of_mem _ (List.mem_append_left _ (List.mem_append_left _ (List.mem_append_left _ (List.mem_append_left _ (List.mem_append_left _ (List.mem_append_left _ (List.mem_of_getElem? (i := 0) rfl)))))))) rfl dX0_countGainers_6 rfl ?_
      refine v_icmp_ge 30 K dX0_countGainers_9 (by decide) (by omega) (by omega) (fun c9 => ?_) (fun c9 => ?_)
      · refine v_iload_n 2 K dX0_countGainers_30 rfl ?_
        exact hret _ _ ⟨(by rw [show pcn μ = k by omega]), rfl⟩ _ _ _ _ _ (Nat.le_of_ble_eq_true rfl) (Nat.le_of_ble_eq_true rfl) dX0_countGainers_31
      · have hg := gn_rng hW (y := y) (p := k) (by omega)
        refine v_aload_n 0 K dX0_countGainers_12 rfl ?_
        refine v_aload_n 1 K dX0_countGainers_13 rfl ?_
        refine v_iload_n 3 K dX0_countGainers_14 rfl ?_
        refine v_callVir (c := 1) (As := [.ref (vAd X (2 + y)), .int (iZ (k : Int))]) (rest := []) K isO_Bd rfl 2 (c_X0_gainOf X.1.2.1 K.2.2.2.2.2.2 _ _ _ μ y k hy (by omega) hW hB) gX0_countGainers_X0_gainOf rfl rfl rfl (by decide +kernel) ⟨(Nat.le_of_ble_eq_true rfl), (Nat.le_of_ble_eq_true rfl)⟩ rfl rfl (Nat.le_of_ble_eq_true rfl) dX0_countGainers_15 ⟨(Nat.le_of_ble_eq_true rfl), (Nat.le_of_ble_eq_true rfl)⟩ ?_
        refine v_if_le 24 K dX0_countGainers_18 (by decide) (by omega) (fun c18 => ?_) (fun c18 => ?_)
        · refine v_iinc 3 [(3, .int (iZ ((k : Int) + 1))), (0, .ref (vAd X 1)), (1, .ref (vAd X (2 + y))), (2, .int (iZ (cgF μ y k)))] K dX0_countGainers_24 rfl (by decide) rfl ?_
          refine v_goto 4 K dX0_countGainers_27 (by decide) ?_
          refine v_sub [1, 2, 3, 0] rfl ?_
          refine v_eq (lv1 := [(0, .ref (vAd X 1)), (1, .ref (vAd X (2 + y))), (2, .int (iZ (cgF μ y (k + 1)))), (3, .int (iZ (((k + 1) : Nat) : Int)))]) (st1 := []) (v_c0 (v_c0 (v_cI (by first | rw [cgF_y (by omega)] | rw [cgF_n (by omega)]) (v_cI (by first | rfl | omega) rfl)))) rfl ?_
          exact ih4 (k + 1) (by omega) (by omega)
        · refine v_iinc 2 [(2, .int (iZ ((cgF μ y k) + 1))), (0, .ref (vAd X 1)), (1, .ref (vAd X (2 + y))), (3, .int (iZ (k : Int)))] K dX0_countGainers_21 rfl (by decide) rfl ?_
          refine v_iinc 3 [(3, .int (iZ ((k : Int) + 1))), (2, .int (iZ ((cgF μ y k) + 1))), (0, .ref (vAd X 1)), (1, .ref (vAd X (2 + y)))] K dX0_countGainers_24 rfl (by decide) rfl ?_
          refine v_goto 4 K dX0_countGainers_27 (by decide) ?_
          refine v_sub [2, 3, 1, 0] rfl ?_
          refine v_eq (lv1 := [(0, .ref (vAd X 1)), (1, .ref (vAd X (2 + y))), (2, .int (iZ (cgF μ y (k + 1)))), (3, .int (iZ (((k + 1) : Nat) : Int)))]) (st1 := []) (v_c0 (v_c0 (v_cI (by first | rw [cgF_y (by omega)] | rw [cgF_n (by omega)]) (v_cI (by first | rfl | omega) rfl)))) rfl ?_
          exact ih4 (k + 1) (by omega) (by omega)
  refine v_sub [2, 3, 1, 0] rfl ?_
  refine v_eq (lv1 := [(0, .ref (vAd X 1)), (1, .ref (vAd X (2 + y))), (2, .int (iZ (cgF μ y 0))), (3, .int (iZ ((0 : Nat) : Int)))]) (st1 := []) (v_c0 (v_c0 (v_cI (by first | rfl | omega) (v_cI (by first | rfl | omega) rfl)))) rfl ?_
  exact L4 (7 - 0 + 1) 0 (by omega) (by omega)
theorem c_X0_countGainers (l : Launch) (hl : l.stackTraces = false) (D : va_G) (cy : Nat → ClassId) (ad : Nat → Nat) (μ : Mem) (y : Nat) (hy : y < 2) (hW : WF μ) (hB : PB μ y) : cI l yX0_countGainers wsX0_countGainers ({ frames := 4, cells := 0, slots := 0, locals := 98 } : Room) D cy ad μ [.ref (ad 1), .ref (ad (2 + y))] (fun (z : Int) (ν : Mem) => z = cgF μ y (pcn μ) ∧ ν = μ) :=
  m_int (av := (fun ad => [.ref (ad 1), .ref (ad (2 + y))])) hl (by decide) rfl rfl (Nat.le_of_ble_eq_true rfl) (fun _ _ _ => rfl) (fun X K hret => b_X0_countGainers y hy hW hB K hret)
theorem dX0_gainerAt_0 : decode cX0_gainerAt 0 = .ok (.iconst 0, 1) := by decide +kernel
theorem dX0_gainerAt_1 : decode cX0_gainerAt 1 = .ok (.istore_n 3, 1) := by decide +kernel
theorem dX0_gainerAt_2 : decode cX0_gainerAt 2 = .ok (.iconst 0, 1) := by decide +kernel
theorem dX0_gainerAt_3 : decode cX0_gainerAt 3 = .ok (.istore 4, 2) := by decide +kernel
theorem dX0_gainerAt_5 : decode cX0_gainerAt 5 = .ok (.iload 4, 2) := by decide +kernel
theorem dX0_gainerAt_7 : decode cX0_gainerAt 7 = .ok (.aload_n 0, 1) := by decide +kernel
theorem dX0_gainerAt_8 : decode cX0_gainerAt 8 = .ok (.getfield 42, 3) := by decide +kernel
theorem dX0_gainerAt_11 : decode cX0_gainerAt 11 = .ok (.if_icmp .ge 30, 3) := by decide +kernel
theorem dX0_gainerAt_41 : decode cX0_gainerAt 41 = .ok (.iconst (-1), 1) := by decide +kernel
theorem dX0_gainerAt_42 : decode cX0_gainerAt 42 = .ok (.ireturn, 1) := by decide +kernel
theorem dX0_gainerAt_14 : decode cX0_gainerAt 14 = .ok (.aload_n 0, 1) := by decide +kernel
theorem dX0_gainerAt_15 : decode cX0_gainerAt 15 = .ok (.aload_n 1, 1) := by decide +kernel
theorem dX0_gainerAt_16 : decode cX0_gainerAt 16 = .ok (.iload 4, 2) := by decide +kernel
theorem dX0_gainerAt_18 : decode cX0_gainerAt 18 = .ok (.invokevirtual 119, 3) := by decide +kernel
set_option maxRecDepth 20000 in
theorem ggX0_gainerAt_X0_gainOf : GoodIn wsX0_gainerAt wsX0_gainOf := goodIn_ca (goodIn_r _ [6, 7, 8, 9, 5, 10, 11, 12, 13, 14, 15, 16, 17, 18, 19, 20, 21, 22, 23, 24, 25, 26, 27, 28, 29, 30, 31, 32, 33, 34, 35, 36, 37, 38, 39, 40, 41, 42, 43, 44, 45, 46, 47, 48, 49, 50, 51, 52, 53, 54, 55, 56, 57, 58, 59, 60, 61, 62, 63, 64, 65, 66, 67, 68, 69, 70, 71, 72, 73] (by decide +kernel) (by decide +kernel)) (goodIn_sub (fun _ h => List.mem_cons_of_mem _ (List.mem_append_right _ h)) (by decide +kernel))
set_option maxRecDepth 20000 in
theorem gX0_gainerAt_X0_gainOf : GoodIn wsX0_gainerAt (wsV RX0 119 RX0 yX0_gainOf wsX0_gainOf) := goodIn_app (goodIn_of _ (by decide +kernel)) ggX0_gainerAt_X0_gainOf
theorem dX0_gainerAt_21 : decode cX0_gainerAt 21 = .ok (.ifCond .le 14, 3) := by decide +kernel
theorem dX0_gainerAt_35 : decode cX0_gainerAt 35 = .ok (.iinc 4 1, 3) := by decide +kernel
theorem dX0_gainerAt_38 : decode cX0_gainerAt 38 = .ok (.goto (-33), 3) := by decide +kernel
theorem dX0_gainerAt_24 : decode cX0_gainerAt 24 = .ok (.iload_n 3, 1) := by decide +kernel
theorem dX0_gainerAt_25 : decode cX0_gainerAt 25 = .ok (.iload_n 2, 1) := by decide +kernel
theorem dX0_gainerAt_26 : decode cX0_gainerAt 26 = .ok (.if_icmp .ne 6, 3) := by decide +kernel
theorem dX0_gainerAt_32 : decode cX0_gainerAt 32 = .ok (.iinc 3 1, 3) := by decide +kernel
theorem dX0_gainerAt_29 : decode cX0_gainerAt 29 = .ok (.iload 4, 2) := by decide +kernel
theorem dX0_gainerAt_31 : decode cX0_gainerAt 31 = .ok (.ireturn, 1) := by decide +kernel
set_option maxHeartbeats 4000000 in
set_option maxRecDepth 100000 in
theorem b_X0_gainerAt {X : VC} {μ : Mem} (y : Nat) (n : Int) (hy : y < 2) (hW : WF μ) (hB : PB μ y) (hn : 0 ≤ n ∧ n ≤ 100) (K : vK X cX0_gainerAt 5 RX0 wsX0_gainerAt ({ frames := 4, cells := 0, slots := 0, locals := 98 } : Room)) (hret : ∀ (z : Int) (ν : Mem), (fun (z : Int) (ν : Mem) => ν = μ ∧ (GA μ y n z)) z ν → ∀ n pc k1 k2 lv, k1 ≤ 0 → k2 ≤ 0 → decode cX0_gainerAt pc = .ok (.ireturn, 1) → vW X n pc k1 k2 lv [.int (iZ z)] ν) : vW X 5 0 0 0 [(0, .ref (vAd X 1)), (1, .ref (vAd X (2 + y))), (2, .int (iZ n))] [] μ := by
  have hpc := hW.pc6
  refine v_iconst K dX0_gainerAt_0 ?_
  refine v_istore_n [(3, .int (iZ 0)), (0, .ref (vAd X 1)), (1, .ref (vAd X (2 + y))), (2, .int (iZ n))] K dX0_gainerAt_1 (by decide) rfl ?_
  refine v_iconst K dX0_gainerAt_2 ?_
  refine v_istore [(4, .int (iZ 0)), (3, .int (iZ 0)), (0, .ref (vAd X 1)), (1, .ref (vAd X (2 + y))), (2, .int (iZ n))] K dX0_gainerAt_3 (by decide) rfl ?_
  have L5 : ∀ (fuel : Nat) (k : Nat) (hm : 7 - k < fuel) (hk : k ≤ pcn μ) (hj : ∀ j : Nat, j < k → 0 < gn μ y j → cgF μ y j ≠ n), vW X 5 5 0 0 [(0, .ref (vAd X 1)), (1, .ref (vAd X (2 + y))), (2, .int (iZ n)), (3, .int (iZ (cgF μ y k))), (4, .int (iZ (k : Int)))] [] μ := by
    intro fuel
    induction fuel with
    | zero => intro k hm; exact absurd hm (Nat.not_lt_zero _)
    | succ fuel ih5 =>
      intro k hm hk hj
      refine v_iload 4 K dX0_gainerAt_5 rfl ?_
      refine v_aload_n 0 K dX0_gainerAt_7 rfl ?_
      refine v_get (c := 1) (k := 3) (C := RX0) (T := TX0) (N := 4) (v := .int (iZ (μ 1 3))) K isO_Bd rfl (fun _ h => (List.mem_cons_of_mem _ (List.mem_append_left _ (List.mem_append_left _ (List.mem_append_left _ (List.mem_append_left _ (List.mem_append_right _ h))))))) (by decide) (List.mem_cons_of_mem _ (List.mem_append_left _ (List.mem_append_left _ (List.mem_append_left _ (List.mem_append_left _ (List.mem_append_left _ (List.mem_append_left _ (List.mem_of_getElem? (i := 0) rfl)))))))) rfl dX0_gainerAt_8 rfl ?_
      refine v_icmp_ge 41 K dX0_gainerAt_11 (by decide) (by omega) (by omega) (fun c11 => ?_) (fun c11 => ?_)
      · refine v_iconst K dX0_gainerAt_41 ?_
        exact hret _ _ ⟨rfl, Or.inl ⟨rfl, fun j hj1 => hj j (by omega)⟩⟩ _ _ _ _ _ (Nat.le_of_ble_eq_true rfl) (Nat.le_of_ble_eq_true rfl) dX0_gainerAt_42
      · have hg := gn_rng hW (y := y) (p := k) (by omega)
        have hc := cgF_rng μ y k
        refine v_aload_n 0 K dX0_gainerAt_14 rfl ?_
        refine v_aload_n 1 K dX0_gainerAt_15 rfl ?_
        refine v_iload 4 K dX0_gainerAt_16 rfl ?_
        refine v_callVir (c := 1) (As := [.ref (vAd X (2 + y)), .int (iZ (k : Int))]) (rest := []) K isO_Bd rfl 2 (c_X0_gainOf X.1.2.1 K.2.2.2.2.2.2 _ _ _ μ y k hy (by omega) hW hB) gX0_gainerAt_X0_gainOf rfl rfl rfl (by decide +kernel) ⟨(Nat.le_of_ble_eq_true rfl), (Nat.le_of_ble_eq_true rfl)⟩ rfl rfl (Nat.le_of_ble_eq_true rfl) dX0_gainerAt_18 ⟨(Nat.le_of_ble_eq_true rfl), (Nat.le_of_ble_eq_true rfl)⟩ ?_
        refine v_if_le 35 K dX0_gainerAt_21 (by decide) (by omega) (fun c21 => ?_) (fun c21 => ?_)
        · refine v_iinc 4 [(4, .int (iZ ((k : Int) + 1))), (0, .ref (vAd X 1)), (1, .ref (vAd X (2 + y))), (2, .int (iZ n)), (3, .int (iZ (cgF μ y k)))] K dX0_gainerAt_35 rfl (by decide) rfl ?_
          refine v_goto 5 K dX0_gainerAt_38 (by decide) ?_
          refine v_sub [1, 2, 3, 4, 0] rfl ?_
          refine v_eq (lv1 := [(0, .ref (vAd X 1)), (1, .ref (vAd X (2 + y))), (2, .int (iZ n)), (3, .int (iZ (cgF μ y (k + 1)))), (4, .int (iZ (((k + 1) : Nat) : Int)))]) (st1 := []) (v_c0 (v_c0 (v_c0 (v_cI (by first | rw [cgF_y (by omega)] | rw [cgF_n (by omega)]) (v_cI (by first | rfl | omega) rfl))))) rfl ?_
          have hj0 := hj
          exact ih5 (k + 1) (by omega) (by omega) (fun j hj h => by rcases (show j < k ∨ j = k by omega) with q | q; exact hj0 j q h; subst q; omega)
        · refine v_iload_n 3 K dX0_gainerAt_24 rfl ?_
          refine v_iload_n 2 K dX0_gainerAt_25 rfl ?_
          refine v_icmp_ne 32 K dX0_gainerAt_26 (by decide) (by omega) (by omega) (fun c26 => ?_) (fun c26 => ?_)
          · refine v_iinc 3 [(3, .int (iZ ((cgF μ y k) + 1))), (0, .ref (vAd X 1)), (1, .ref (vAd X (2 + y))), (2, .int (iZ n)), (4, .int (iZ (k : Int)))] K dX0_gainerAt_32 rfl (by decide) rfl ?_
            refine v_iinc 4 [(4, .int (iZ ((k : Int) + 1))), (3, .int (iZ ((cgF μ y k) + 1))), (0, .ref (vAd X 1)), (1, .ref (vAd X (2 + y))), (2, .int (iZ n))] K dX0_gainerAt_35 rfl (by decide) rfl ?_
            refine v_goto 5 K dX0_gainerAt_38 (by decide) ?_
            refine v_sub [2, 3, 4, 1, 0] rfl ?_
            refine v_eq (lv1 := [(0, .ref (vAd X 1)), (1, .ref (vAd X (2 + y))), (2, .int (iZ n)), (3, .int (iZ (cgF μ y (k + 1)))), (4, .int (iZ (((k + 1) : Nat) : Int)))]) (st1 := []) (v_c0 (v_c0 (v_c0 (v_cI (by first | rw [cgF_y (by omega)] | rw [cgF_n (by omega)]) (v_cI (by first | rfl | omega) rfl))))) rfl ?_
            have hj0 := hj
            exact ih5 (k + 1) (by omega) (by omega) (fun j hj h => by rcases (show j < k ∨ j = k by omega) with q | q; exact hj0 j q h; subst q; omega)
          · refine v_iload 4 K dX0_gainerAt_29 rfl ?_
            exact hret _ _ ⟨rfl, Or.inr ⟨k, (by omega), (by omega), (by omega), rfl⟩⟩ _ _ _ _ _ (Nat.le_of_ble_eq_true rfl) (Nat.le_of_ble_eq_true rfl) dX0_gainerAt_31
  refine v_sub [2, 3, 4, 1, 0] rfl ?_
  refine v_eq (lv1 := [(0, .ref (vAd X 1)), (1, .ref (vAd X (2 + y))), (2, .int (iZ n)), (3, .int (iZ (cgF μ y 0))), (4, .int (iZ ((0 : Nat) : Int)))]) (st1 := []) (v_c0 (v_c0 (v_c0 (v_cI (by first | rfl | omega) (v_cI (by first | rfl | omega) rfl))))) rfl ?_
  exact L5 (7 - 0 + 1) 0 (by omega) (by omega) (fun j hj => by omega)
theorem c_X0_gainerAt (l : Launch) (hl : l.stackTraces = false) (D : va_G) (cy : Nat → ClassId) (ad : Nat → Nat) (μ : Mem) (y : Nat) (n : Int) (hy : y < 2) (hW : WF μ) (hB : PB μ y) (hn : 0 ≤ n ∧ n ≤ 100) : cI l yX0_gainerAt wsX0_gainerAt ({ frames := 4, cells := 0, slots := 0, locals := 98 } : Room) D cy ad μ [.ref (ad 1), .ref (ad (2 + y)), .int (iZ n)] (fun (z : Int) (ν : Mem) => ν = μ ∧ (GA μ y n z)) :=
  m_int (av := (fun ad => [.ref (ad 1), .ref (ad (2 + y)), .int (iZ n)])) hl (by decide) rfl rfl (Nat.le_of_ble_eq_true rfl) (fun _ _ _ => rfl) (fun X K hret => b_X0_gainerAt y n hy hW hB hn K hret)
theorem dX0_totalOf_0 : decode cX0_totalOf 0 = .ok (.iconst 0, 1) := by decide +kernel
theorem dX0_totalOf_1 : decode cX0_totalOf 1 = .ok (.istore_n 2, 1) := by decide +kernel
theorem dX0_totalOf_2 : decode cX0_totalOf 2 = .ok (.iconst 0, 1) := by decide +kernel
theorem dX0_totalOf_3 : decode cX0_totalOf 3 = .ok (.istore_n 3, 1) := by decide +kernel
theorem dX0_totalOf_4 : decode cX0_totalOf 4 = .ok (.iload_n 3, 1) := by decide +kernel
theorem dX0_totalOf_5 : decode cX0_totalOf 5 = .ok (.aload_n 0, 1) := by decide +kernel
theorem dX0_totalOf_6 : decode cX0_totalOf 6 = .ok (.getfield 42, 3) := by decide +kernel
theorem dX0_totalOf_9 : decode cX0_totalOf 9 = .ok (.if_icmp .ge 84, 3) := by decide +kernel
theorem dX0_totalOf_93 : decode cX0_totalOf 93 = .ok (.iload_n 2, 1) := by decide +kernel
theorem dX0_totalOf_94 : decode cX0_totalOf 94 = .ok (.ireturn, 1) := by decide +kernel
theorem dX0_totalOf_12 : decode cX0_totalOf 12 = .ok (.aload_n 0, 1) := by decide +kernel
theorem dX0_totalOf_13 : decode cX0_totalOf 13 = .ok (.getfield 20, 3) := by decide +kernel
theorem dX0_totalOf_16 : decode cX0_totalOf 16 = .ok (.iload_n 3, 1) := by decide +kernel
theorem dX0_totalOf_17 : decode cX0_totalOf 17 = .ok (.aaload, 1) := by decide +kernel
theorem dX0_totalOf_18 : decode cX0_totalOf 18 = .ok (.aload_n 1, 1) := by decide +kernel
theorem dX0_totalOf_19 : decode cX0_totalOf 19 = .ok (.getfield 62, 3) := by decide +kernel
theorem dX0_totalOf_22 : decode cX0_totalOf 22 = .ok (.iload_n 3, 1) := by decide +kernel
theorem dX0_totalOf_23 : decode cX0_totalOf 23 = .ok (.iaload, 1) := by decide +kernel
theorem dX0_totalOf_24 : decode cX0_totalOf 24 = .ok (.invokevirtual 67, 3) := by decide +kernel
set_option maxRecDepth 20000 in
theorem ggX0_totalOf_X4_bitsOf : GoodIn wsX0_totalOf wsX4_bitsOf := goodIn_ca (goodIn_r _ [12, 13, 14, 31, 32, 33, 34, 35, 36] (by decide +kernel) (by decide +kernel)) (goodIn_sub (fun _ h => List.mem_cons_of_mem _ (List.mem_append_right _ h)) (by decide +kernel))
set_option maxRecDepth 20000 in
theorem gX0_totalOf_X4_bitsOf : GoodIn wsX0_totalOf (wsV RX0 67 RX4 yX4_bitsOf wsX4_bitsOf) := goodIn_app (goodIn_of _ (by decide +kernel)) ggX0_totalOf_X4_bitsOf
theorem dX0_totalOf_27 : decode cX0_totalOf 27 = .ok (.istore 4, 2) := by decide +kernel
theorem dX0_totalOf_29 : decode cX0_totalOf 29 = .ok (.iconst 0, 1) := by decide +kernel
theorem dX0_totalOf_30 : decode cX0_totalOf 30 = .ok (.istore 5, 2) := by decide +kernel
theorem dX0_totalOf_32 : decode cX0_totalOf 32 = .ok (.iload 5, 2) := by decide +kernel
theorem dX0_totalOf_34 : decode cX0_totalOf 34 = .ok (.aload_n 0, 1) := by decide +kernel
theorem dX0_totalOf_35 : decode cX0_totalOf 35 = .ok (.getfield 25, 3) := by decide +kernel
theorem dX0_totalOf_38 : decode cX0_totalOf 38 = .ok (.if_icmp .ge 49, 3) := by decide +kernel
theorem dX0_totalOf_87 : decode cX0_totalOf 87 = .ok (.iinc 3 1, 3) := by decide +kernel
theorem dX0_totalOf_90 : decode cX0_totalOf 90 = .ok (.goto (-86), 3) := by decide +kernel
theorem dX0_totalOf_41 : decode cX0_totalOf 41 = .ok (.iload 4, 2) := by decide +kernel
theorem dX0_totalOf_43 : decode cX0_totalOf 43 = .ok (.iload 5, 2) := by decide +kernel
theorem dX0_totalOf_45 : decode cX0_totalOf 45 = .ok (.invokestatic 71, 3) := by decide +kernel
set_option maxRecDepth 20000 in
theorem ggX0_totalOf_X7_hasBit : GoodIn wsX0_totalOf wsX7_hasBit := goodIn_r _ [17] (by decide +kernel) (by decide +kernel)
set_option maxRecDepth 20000 in
theorem gX0_totalOf_X7_hasBit_n71 : GoodIn wsX0_totalOf (wsX7_hasBit) := ggX0_totalOf_X7_hasBit
theorem dX0_totalOf_48 : decode cX0_totalOf 48 = .ok (.ifCond .eq 33, 3) := by decide +kernel
theorem dX0_totalOf_81 : decode cX0_totalOf 81 = .ok (.iinc 5 1, 3) := by decide +kernel
theorem dX0_totalOf_84 : decode cX0_totalOf 84 = .ok (.goto (-52), 3) := by decide +kernel
theorem dX0_totalOf_51 : decode cX0_totalOf 51 = .ok (.iload_n 2, 1) := by decide +kernel
theorem dX0_totalOf_52 : decode cX0_totalOf 52 = .ok (.aload_n 0, 1) := by decide +kernel
theorem dX0_totalOf_53 : decode cX0_totalOf 53 = .ok (.getfield 20, 3) := by decide +kernel
theorem dX0_totalOf_56 : decode cX0_totalOf 56 = .ok (.iload_n 3, 1) := by decide +kernel
theorem dX0_totalOf_57 : decode cX0_totalOf 57 = .ok (.aaload, 1) := by decide +kernel
theorem dX0_totalOf_58 : decode cX0_totalOf 58 = .ok (.getfield 45, 3) := by decide +kernel
theorem dX0_totalOf_61 : decode cX0_totalOf 61 = .ok (.aload_n 0, 1) := by decide +kernel
theorem dX0_totalOf_62 : decode cX0_totalOf 62 = .ok (.getfield 11, 3) := by decide +kernel
theorem dX0_totalOf_65 : decode cX0_totalOf 65 = .ok (.iload 5, 2) := by decide +kernel
theorem dX0_totalOf_67 : decode cX0_totalOf 67 = .ok (.aaload, 1) := by decide +kernel
theorem dX0_totalOf_68 : decode cX0_totalOf 68 = .ok (.aload_n 1, 1) := by decide +kernel
theorem dX0_totalOf_69 : decode cX0_totalOf 69 = .ok (.getfield 75, 3) := by decide +kernel
theorem dX0_totalOf_72 : decode cX0_totalOf 72 = .ok (.iload 5, 2) := by decide +kernel
theorem dX0_totalOf_74 : decode cX0_totalOf 74 = .ok (.iaload, 1) := by decide +kernel
theorem dX0_totalOf_75 : decode cX0_totalOf 75 = .ok (.invokevirtual 88, 3) := by decide +kernel
set_option maxRecDepth 20000 in
theorem ggX0_totalOf_X5_delayBy : GoodIn wsX0_totalOf wsX5_delayBy := goodIn_ca (goodIn_r _ [22, 23, 37, 38, 39, 40, 41, 42, 43] (by decide +kernel) (by decide +kernel)) (goodIn_sub (fun _ h => List.mem_cons_of_mem _ (List.mem_append_right _ h)) (by decide +kernel))
set_option maxRecDepth 20000 in
theorem gX0_totalOf_X5_delayBy : GoodIn wsX0_totalOf (wsV RX0 88 RX5 yX5_delayBy wsX5_delayBy) := goodIn_app (goodIn_of _ (by decide +kernel)) ggX0_totalOf_X5_delayBy
theorem dX0_totalOf_78 : decode cX0_totalOf 78 = .ok (.imul, 1) := by decide +kernel
theorem dX0_totalOf_79 : decode cX0_totalOf 79 = .ok (.iadd, 1) := by decide +kernel
theorem dX0_totalOf_80 : decode cX0_totalOf 80 = .ok (.istore_n 2, 1) := by decide +kernel
set_option maxHeartbeats 4000000 in
set_option maxRecDepth 100000 in
theorem b_X0_totalOf {X : VC} {μ : Mem} (y : Nat) (hy : y < 2) (hW : WF μ) (hB : PB μ y) (K : vK X cX0_totalOf 6 RX0 wsX0_totalOf ({ frames := 1, cells := 0, slots := 0, locals := 21 } : Room)) (hret : ∀ (z : Int) (ν : Mem), (fun (z : Int) (ν : Mem) => z = tot μ y ∧ ν = μ) z ν → ∀ n pc k1 k2 lv, k1 ≤ 0 → k2 ≤ 0 → decode cX0_totalOf pc = .ok (.ireturn, 1) → vW X n pc k1 k2 lv [.int (iZ z)] ν) : vW X 6 0 0 0 [(0, .ref (vAd X 1)), (1, .ref (vAd X (2 + y)))] [] μ := by
  have hrc := hW.rc8
  have hpc := hW.pc6
  refine v_iconst K dX0_totalOf_0 ?_
  refine v_istore_n [(2, .int (iZ 0)), (0, .ref (vAd X 1)), (1, .ref (vAd X (2 + y)))] K dX0_totalOf_1 (by decide) rfl ?_
  refine v_iconst K dX0_totalOf_2 ?_
  refine v_istore_n [(3, .int (iZ 0)), (2, .int (iZ 0)), (0, .ref (vAd X 1)), (1, .ref (vAd X (2 + y)))] K dX0_totalOf_3 (by decide) rfl ?_
  have L4 : ∀ (fuel : Nat) (p : Nat) (hm : 7 - p < fuel) (hp : p ≤ pcn μ), vW X 6 4 0 0 [(0, .ref (vAd X 1)), (1, .ref (vAd X (2 + y))), (2, .int (iZ (sm p (totP μ y)))), (3, .int (iZ (p : Int)))] [] μ := by
    intro fuel
    induction fuel with
    | zero => intro p hm; exact absurd hm (Nat.not_lt_zero _)
    | succ fuel ih4 =>
      intro p hm hp
      refine v_iload_n 3 K dX0_totalOf_4 rfl ?_
      refine v_aload_n 0 K dX0_totalOf_5 rfl ?_
      refine v_get (c := 1) (k := 3) (C := RX0) (T := TX0) (N := 4) (v := .int (iZ (μ 1 3))) K isO_Bd rfl (fun _ h => (List.mem_cons_of_mem _ (List.mem_append_left _ (List.mem_append_left _ (List.mem_append_left _ (List.mem_append_left _ (List.mem_append_right _ h))))))) (by decide) (List.mem_cons_of_mem _ (List.mem_append_left _ (List.mem_append_left _ (List.mem_append_left _ (List.mem_append_left _ (List.mem_append_left _ (List.mem_of_getElem? (i := 0) rfl))))))) rfl dX0_totalOf_6 rfl ?_
      refine v_icmp_ge 93 K dX0_totalOf_9 (by decide) (by omega) (by omega) (fun c9 => ?_) (fun c9 => ?_)
      · refine v_iload_n 2 K dX0_totalOf_93 rfl ?_
        exact hret _ _ ⟨(by unfold tot; rw [show pcn μ = p by omega]), rfl⟩ _ _ _ _ _ (Nat.le_of_ble_eq_true rfl) (Nat.le_of_ble_eq_true rfl) dX0_totalOf_94
      · have hpl := hW.pl (p := p) (by omega)
        have hch := hB.1 p (by omega)
        have hb1 := bits_rng hW (p := p) (by omega) (μ (5 + 2 * y) p)
        refine v_aload_n 0 K dX0_totalOf_12 rfl ?_
        refine v_get (c := 1) (k := 1) (C := RX0) (T := TX0) (N := 4) (v := .ref (vAd X 20)) K isO_Bd rfl (fun _ h => (List.mem_cons_of_mem _ (List.mem_append_left _ (List.mem_append_left _ (List.mem_append_left _ (List.mem_append_left _ (List.mem_append_right _ h))))))) (by decide) (List.mem_cons_of_mem _ (List.mem_append_left _ (List.mem_append_left _ (List.mem_append_left _ (List.mem_append_left _ (List.mem_append_left _ (List.mem_of_getElem? (i := 1) rfl))))))) rfl dX0_totalOf_13 rfl ?_
        refine v_iload_n 3 K dX0_totalOf_16 rfl ?_
        refine v_aald (c := 20) p K isQ_Py rfl rfl (by omega) dX0_totalOf_17 ?_
        refine v_aload_n 1 K dX0_totalOf_18 rfl ?_
        refine v_get (c := (2 + y)) (k := 0) (C := RX3) (T := TX3) (N := 3) (v := .ref (vAd X (5 + 2 * y))) K (isO_Pl (y := y) (by omega)) rfl (fun _ h => (List.mem_cons_of_mem _ (List.mem_append_left _ (List.mem_append_left _ (List.mem_append_left _ (List.mem_append_right _ h)))))) (by decide) (List.mem_cons_of_mem _ (List.mem_append_left _ (List.mem_append_left _ (List.mem_append_left _ (List.mem_append_left _ (List.mem_append_left _ (List.mem_of_getElem? (i := 2) rfl))))))) rfl dX0_totalOf_19 rfl ?_
        refine v_iload_n 3 K dX0_totalOf_22 rfl ?_
        refine v_iald (c := (5 + 2 * y)) p K (isI_ch (y := y) (by omega)) rfl (by omega) dX0_totalOf_23 ?_
        refine v_callVir (c := (37 + p)) (As := [.int (iZ (μ (5 + 2 * y) p))]) (rest := []) K (isO_Py (p := p) (by omega)) rfl 1 (c_X4_bitsOf X.1.2.1 K.2.2.2.2.2.2 _ _ _ μ p (μ (5 + 2 * y) p) (by omega) (by omega) hW) gX0_totalOf_X4_bitsOf rfl rfl rfl (by decide +kernel) ⟨(Nat.le_of_ble_eq_true rfl), (Nat.le_of_ble_eq_true rfl)⟩ rfl rfl (Nat.le_of_ble_eq_true rfl) dX0_totalOf_24 ⟨(Nat.le_of_ble_eq_true rfl), (Nat.le_of_ble_eq_true rfl)⟩ ?_
        refine v_istore [(4, .int (iZ (bits μ p (μ (5 + 2 * y) p)))), (0, .ref (vAd X 1)), (1, .ref (vAd X (2 + y))), (2, .int (iZ (sm p (totP μ y)))), (3, .int (iZ (p : Int)))] K dX0_totalOf_27 (by decide) rfl ?_
        refine v_iconst K dX0_totalOf_29 ?_
        refine v_istore [(5, .int (iZ 0)), (4, .int (iZ (bits μ p (μ (5 + 2 * y) p)))), (0, .ref (vAd X 1)), (1, .ref (vAd X (2 + y))), (2, .int (iZ (sm p (totP μ y)))), (3, .int (iZ (p : Int)))] K dX0_totalOf_30 (by decide) rfl ?_
        have L32 : ∀ (fuel : Nat) (r : Nat) (hm : 9 - r < fuel) (hr : r ≤ rc μ), vW X 6 32 0 0 [(0, .ref (vAd X 1)), (1, .ref (vAd X (2 + y))), (2, .int (iZ (sm p (totP μ y) + sm r (totT μ y p)))), (3, .int (iZ (p : Int))), (4, .int (iZ (bits μ p (μ (5 + 2 * y) p)))), (5, .int (iZ (r : Int)))] [] μ := by
          intro fuel
          induction fuel with
          | zero => intro r hm; exact absurd hm (Nat.not_lt_zero _)
          | succ fuel ih32 =>
            intro r hm hr
            refine v_iload 5 K dX0_totalOf_32 rfl ?_
            refine v_aload_n 0 K dX0_totalOf_34 rfl ?_
            refine v_get (c := 1) (k := 2) (C := RX0) (T := TX0) (N := 4) (v := .int (iZ (μ 1 2))) K isO_Bd rfl (fun _ h => (List.mem_cons_of_mem _ (List.mem_append_left _ (List.mem_append_left _ (List.mem_append_left _ (List.mem_append_left _ (List.mem_append_right _ h))))))) (by decide) (List.mem_cons_of_mem _ (List.mem_append_left _ (List.mem_append_left _ (List.mem_append_left _ (List.mem_append_left _ (List.mem_append_left _ (List.mem_of_getElem? (i := 3) rfl))))))) rfl dX0_totalOf_35 rfl ?_
            refine v_icmp_ge 87 K dX0_totalOf_38 (by decide) (by omega) (by omega) (fun c38 => ?_) (fun c38 => ?_)
            · refine v_iinc 3 [(3, .int (iZ ((p : Int) + 1))), (0, .ref (vAd X 1)), (1, .ref (vAd X (2 + y))), (2, .int (iZ (sm p (totP μ y) + sm r (totT μ y p)))), (4, .int (iZ (bits μ p (μ (5 + 2 * y) p)))), (5, .int (iZ (r : Int)))] K dX0_totalOf_87 rfl (by decide) rfl ?_
              refine v_goto 4 K dX0_totalOf_90 (by decide) ?_
              refine v_sub [1, 2, 3, 0] rfl ?_
              refine v_eq (lv1 := [(0, .ref (vAd X 1)), (1, .ref (vAd X (2 + y))), (2, .int (iZ (sm (p + 1) (totP μ y)))), (3, .int (iZ (((p + 1) : Nat) : Int)))]) (st1 := []) (v_c0 (v_c0 (v_cI (show sm p (totP μ y) + sm r (totT μ y p) = sm p (totP μ y) + sm (rc μ) (totT μ y p) by rw [show rc μ = r by omega]) (v_cI (by first | rfl | omega) rfl)))) rfl ?_
              exact ih4 (p + 1) (by omega) (by omega)
            · have h01 := tz_01 (bits μ p (μ (5 + 2 * y) p)) r
              have hld := hB.2.1 r (by omega)
              refine v_iload 4 K dX0_totalOf_41 rfl ?_
              refine v_iload 5 K dX0_totalOf_43 rfl ?_
              refine v_callNir (host := RX7) (As := [.int (iZ (bits μ p (μ (5 + 2 * y) p))), .int (iZ (r : Int))]) (rest := []) K 2 (c_X7_hasBit X.1.2.1 K.2.2.2.2.2.2 _ _ _ μ (bits μ p (μ (5 + 2 * y) p)) r (by omega) (by omega)) gX0_totalOf_X7_hasBit_n71 rfl rfl rfl (by decide +kernel) (List.mem_cons_of_mem _ (List.mem_append_left _ (List.mem_append_left _ (List.mem_append_left _ (List.mem_append_left _ (List.mem_append_left _ (List.mem_of_getElem? (i := 15) rfl))))))) (List.mem_cons_of_mem _ (List.mem_append_left _ (List.mem_append_left _ (List.mem_append_left _ (List.mem_append_left _ (List.mem_append_left _ (List.mem_of_getElem? (i := 14) rfl))))))) (by decide +kernel) ⟨(Nat.le_of_ble_eq_true rfl), (Nat.le_of_ble_eq_true rfl)⟩ rfl rfl (Nat.le_of_ble_eq_true rfl) dX0_totalOf_45 ⟨(Nat.le_of_ble_eq_true rfl), (Nat.le_of_ble_eq_true rfl)⟩ ?_
              refine v_if_eq 81 K dX0_totalOf_48 (by decide) (by omega) (fun c48 => ?_) (fun c48 => ?_)
              · refine v_iinc 5 [(5, .int (iZ ((r : Int) + 1))), (0, .ref (vAd X 1)), (1, .ref (vAd X (2 + y))), (2, .int (iZ (sm p (totP μ y) + sm r (totT μ y p)))), (3, .int (iZ (p : Int))), (4, .int (iZ (bits μ p (μ (5 + 2 * y) p))))] K dX0_totalOf_81 rfl (by decide) rfl ?_
                refine v_goto 32 K dX0_totalOf_84 (by decide) ?_
                refine v_sub [1, 2, 3, 4, 5, 0] rfl ?_
                refine v_eq (lv1 := [(0, .ref (vAd X 1)), (1, .ref (vAd X (2 + y))), (2, .int (iZ (sm p (totP μ y) + sm (r + 1) (totT μ y p)))), (3, .int (iZ (p : Int))), (4, .int (iZ (bits μ p (μ (5 + 2 * y) p)))), (5, .int (iZ (((r + 1) : Nat) : Int)))]) (st1 := []) (v_c0 (v_c0 (v_cI (by first | (rw [sm_s, totT_y (by omega)]; omega) | (rw [sm_s, totT_n (by omega)]; omega)) (v_c0 (v_c0 (v_cI (by first | rfl | omega) rfl)))))) rfl ?_
                exact ih32 (r + 1) (by omega) (by omega)
              · refine v_iload_n 2 K dX0_totalOf_51 rfl ?_
                refine v_aload_n 0 K dX0_totalOf_52 rfl ?_
                refine v_get (c := 1) (k := 1) (C := RX0) (T := TX0) (N := 4) (v := .ref (vAd X 20)) K isO_Bd rfl (fun _ h => (List.mem_cons_of_mem _ (List.mem_append_left _ (List.mem_append_left _ (List.mem_append_left _ (List.mem_append_left _ (List.mem_append_right _ h))))))) (by decide) (List.mem_cons_of_mem _ (List.mem_append_left _ (List.mem_append_left _ (List.mem_append_left _ (List.mem_append_left _ (List.mem_append_left _ (List.mem_of_getElem? (i := 1) rfl))))))) rfl dX0_totalOf_53 rfl ?_
                refine v_iload_n 3 K dX0_totalOf_56 rfl ?_
                refine v_aald (c := 20) p K isQ_Py rfl rfl (by omega) dX0_totalOf_57 ?_
                refine v_get (c := (37 + p)) (k := 0) (C := RX4) (T := TX4) (N := 6) (v := .int (iZ (μ (37 + p) 0))) K (isO_Py (p := p) (by omega)) rfl (fun _ h => (List.mem_cons_of_mem _ (List.mem_append_left _ (List.mem_append_left _ (List.mem_append_right _ h))))) (by decide) (List.mem_cons_of_mem _ (List.mem_append_left _ (List.mem_append_left _ (List.mem_append_left _ (List.mem_append_left _ (List.mem_append_left _ (List.mem_of_getElem? (i := 4) rfl))))))) rfl dX0_totalOf_58 rfl ?_
                refine v_aload_n 0 K dX0_totalOf_61 rfl ?_
                refine v_get (c := 1) (k := 0) (C := RX0) (T := TX0) (N := 4) (v := .ref (vAd X 19)) K isO_Bd rfl (fun _ h => (List.mem_cons_of_mem _ (List.mem_append_left _ (List.mem_append_left _ (List.mem_append_left _ (List.mem_append_left _ (List.mem_append_right _ h))))))) (by decide) (List.mem_cons_of_mem _ (List.mem_append_left _ (List.mem_append_left _ (List.mem_append_left _ (List.mem_append_left _ (List.mem_append_left _ (List.mem_of_getElem? (i := 5) rfl))))))) rfl dX0_totalOf_62 rfl ?_
                refine v_iload 5 K dX0_totalOf_65 rfl ?_
                refine v_aald (c := 19) r K isQ_Rs rfl rfl (by omega) dX0_totalOf_67 ?_
                refine v_aload_n 1 K dX0_totalOf_68 rfl ?_
                refine v_get (c := (2 + y)) (k := 1) (C := RX3) (T := TX3) (N := 3) (v := .ref (vAd X (6 + 2 * y))) K (isO_Pl (y := y) (by omega)) rfl (fun _ h => (List.mem_cons_of_mem _ (List.mem_append_left _ (List.mem_append_left _ (List.mem_append_left _ (List.mem_append_right _ h)))))) (by decide) (List.mem_cons_of_mem _ (List.mem_append_left _ (List.mem_append_left _ (List.mem_append_left _ (List.mem_append_left _ (List.mem_append_left _ (List.mem_of_getElem? (i := 6) rfl))))))) rfl dX0_totalOf_69 rfl ?_
                refine v_iload 5 K dX0_totalOf_72 rfl ?_
                refine v_iald (c := (6 + 2 * y)) r K (isI_ld (y := y) (by omega)) rfl (by omega) dX0_totalOf_74 ?_
                refine v_callVir (c := (21 + r)) (As := [.int (iZ (μ (6 + 2 * y) r))]) (rest := [.int (iZ (μ (37 + p) 0)), .int (iZ (sm p (totP μ y) + sm r (totT μ y p)))]) K (isO_Rs (r := r) (by omega)) rfl 1 (c_X5_delayBy X.1.2.1 K.2.2.2.2.2.2 _ _ _ μ r (μ (6 + 2 * y) r) (by omega) (by omega)) gX0_totalOf_X5_delayBy rfl rfl rfl (by decide +kernel) ⟨(Nat.le_of_ble_eq_true rfl), (Nat.le_of_ble_eq_true rfl)⟩ rfl rfl (Nat.le_of_ble_eq_true rfl) dX0_totalOf_75 ⟨(Nat.le_of_ble_eq_true rfl), (Nat.le_of_ble_eq_true rfl)⟩ ?_
                refine v_imul K dX0_totalOf_78 ?_
                refine v_iadd K dX0_totalOf_79 ?_
                refine v_istore_n [(2, .int (iZ ((sm p (totP μ y) + sm r (totT μ y p)) + ((μ (37 + p) 0) * (dly μ r (μ (6 + 2 * y) r)))))), (0, .ref (vAd X 1)), (1, .ref (vAd X (2 + y))), (3, .int (iZ (p : Int))), (4, .int (iZ (bits μ p (μ (5 + 2 * y) p)))), (5, .int (iZ (r : Int)))] K dX0_totalOf_80 (by decide) rfl ?_
                refine v_iinc 5 [(5, .int (iZ ((r : Int) + 1))), (2, .int (iZ ((sm p (totP μ y) + sm r (totT μ y p)) + ((μ (37 + p) 0) * (dly μ r (μ (6 + 2 * y) r)))))), (0, .ref (vAd X 1)), (1, .ref (vAd X (2 + y))), (3, .int (iZ (p : Int))), (4, .int (iZ (bits μ p (μ (5 + 2 * y) p))))] K dX0_totalOf_81 rfl (by decide) rfl ?_
                refine v_goto 32 K dX0_totalOf_84 (by decide) ?_
                refine v_sub [2, 3, 1, 4, 5, 0] rfl ?_
                refine v_eq (lv1 := [(0, .ref (vAd X 1)), (1, .ref (vAd X (2 + y))), (2, .int (iZ (sm p (totP μ y) + sm (r + 1) (totT μ y p)))), (3, .int (iZ (p : Int))), (4, .int (iZ (bits μ p (μ (5 + 2 * y) p)))), (5, .int (iZ (((r + 1) : Nat) : Int)))]) (st1 := []) (v_c0 (v_c0 (v_cI (by first | (rw [sm_s, totT_y (by omega)]; omega) | (rw [sm_s, totT_n (by omega)]; omega)) (v_c0 (v_c0 (v_cI (by first | rfl | omega) rfl)))))) rfl ?_
                exact ih32 (r + 1) (by omega) (by omega)
        refine v_sub [2, 3, 4, 5, 1, 0] rfl ?_
        refine v_eq (lv1 := [(0, .ref (vAd X 1)), (1, .ref (vAd X (2 + y))), (2, .int (iZ (sm p (totP μ y) + sm 0 (totT μ y p)))), (3, .int (iZ (p : Int))), (4, .int (iZ (bits μ p (μ (5 + 2 * y) p)))), (5, .int (iZ ((0 : Nat) : Int)))]) (st1 := []) (v_c0 (v_c0 (v_cI (by rw [sm_0]; omega) (v_c0 (v_c0 (v_cI (by first | rfl | omega) rfl)))))) rfl ?_
        exact L32 (9 - 0 + 1) 0 (by omega) (by omega)
  refine v_sub [2, 3, 1, 0] rfl ?_
  refine v_eq (lv1 := [(0, .ref (vAd X 1)), (1, .ref (vAd X (2 + y))), (2, .int (iZ (sm 0 (totP μ y)))), (3, .int (iZ ((0 : Nat) : Int)))]) (st1 := []) (v_c0 (v_c0 (v_cI (by first | rfl | omega) (v_cI (by first | rfl | omega) rfl)))) rfl ?_
  exact L4 (7 - 0 + 1) 0 (by omega) (by omega)
theorem c_X0_totalOf (l : Launch) (hl : l.stackTraces = false) (D : va_G) (cy : Nat → ClassId) (ad : Nat → Nat) (μ : Mem) (y : Nat) (hy : y < 2) (hW : WF μ) (hB : PB μ y) : cI l yX0_totalOf wsX0_totalOf ({ frames := 1, cells := 0, slots := 0, locals := 21 } : Room) D cy ad μ [.ref (ad 1), .ref (ad (2 + y))] (fun (z : Int) (ν : Mem) => z = tot μ y ∧ ν = μ) :=
  m_int (av := (fun ad => [.ref (ad 1), .ref (ad (2 + y))])) hl (by decide) rfl rfl (Nat.le_of_ble_eq_true rfl) (fun _ _ _ => rfl) (fun X K hret => b_X0_totalOf y hy hW hB K hret)
theorem dX0_movesOf_0 : decode cX0_movesOf 0 = .ok (.iconst 0, 1) := by decide +kernel
theorem dX0_movesOf_1 : decode cX0_movesOf 1 = .ok (.istore_n 2, 1) := by decide +kernel
theorem dX0_movesOf_2 : decode cX0_movesOf 2 = .ok (.iconst 0, 1) := by decide +kernel
theorem dX0_movesOf_3 : decode cX0_movesOf 3 = .ok (.istore_n 3, 1) := by decide +kernel
theorem dX0_movesOf_4 : decode cX0_movesOf 4 = .ok (.iload_n 3, 1) := by decide +kernel
theorem dX0_movesOf_5 : decode cX0_movesOf 5 = .ok (.aload_n 0, 1) := by decide +kernel
theorem dX0_movesOf_6 : decode cX0_movesOf 6 = .ok (.getfield 42, 3) := by decide +kernel
theorem dX0_movesOf_9 : decode cX0_movesOf 9 = .ok (.if_icmp .ge 84, 3) := by decide +kernel
theorem dX0_movesOf_93 : decode cX0_movesOf 93 = .ok (.iload_n 2, 1) := by decide +kernel
theorem dX0_movesOf_94 : decode cX0_movesOf 94 = .ok (.ireturn, 1) := by decide +kernel
theorem dX0_movesOf_12 : decode cX0_movesOf 12 = .ok (.aload_n 0, 1) := by decide +kernel
theorem dX0_movesOf_13 : decode cX0_movesOf 13 = .ok (.aload_n 1, 1) := by decide +kernel
theorem dX0_movesOf_14 : decode cX0_movesOf 14 = .ok (.iload_n 3, 1) := by decide +kernel
theorem dX0_movesOf_15 : decode cX0_movesOf 15 = .ok (.invokevirtual 102, 3) := by decide +kernel
set_option maxRecDepth 20000 in
theorem ggX0_movesOf_X0_isAsked : GoodIn wsX0_movesOf wsX0_isAsked := goodIn_ca (goodIn_r _ [8, 2, 9, 10, 46, 47, 48, 49, 50, 51, 52, 53, 54, 55, 56, 57, 58] (by decide +kernel) (by decide +kernel)) (goodIn_sub (fun _ h => List.mem_cons_of_mem _ (List.mem_append_right _ h)) (by decide +kernel))
set_option maxRecDepth 20000 in
theorem gX0_movesOf_X0_isAsked : GoodIn wsX0_movesOf (wsV RX0 102 RX0 yX0_isAsked wsX0_isAsked) := goodIn_app (goodIn_of _ (by decide +kernel)) ggX0_movesOf_X0_isAsked
theorem dX0_movesOf_18 : decode cX0_movesOf 18 = .ok (.ifCond .eq 69, 3) := by decide +kernel
theorem dX0_movesOf_87 : decode cX0_movesOf 87 = .ok (.iinc 3 1, 3) := by decide +kernel
theorem dX0_movesOf_90 : decode cX0_movesOf 90 = .ok (.goto (-86), 3) := by decide +kernel
theorem dX0_movesOf_21 : decode cX0_movesOf 21 = .ok (.aload_n 0, 1) := by decide +kernel
theorem dX0_movesOf_22 : decode cX0_movesOf 22 = .ok (.aload_n 1, 1) := by decide +kernel
theorem dX0_movesOf_23 : decode cX0_movesOf 23 = .ok (.iload_n 3, 1) := by decide +kernel
theorem dX0_movesOf_24 : decode cX0_movesOf 24 = .ok (.invokevirtual 106, 3) := by decide +kernel
set_option maxRecDepth 20000 in
theorem ggX0_movesOf_X0_ownCost : GoodIn wsX0_movesOf wsX0_ownCost := goodIn_ca (goodIn_r _ [14, 10, 15, 16, 17, 7, 18, 2, 19, 20, 21, 22, 23, 24, 25, 26, 27, 28, 29, 30, 31, 32, 33, 34, 35, 36, 37, 38, 39, 40, 56, 57, 58, 46, 47, 48, 49, 50, 51, 52, 53, 54, 55, 59, 60, 61, 62, 63, 64, 65] (by decide +kernel) (by decide +kernel)) (goodIn_sub (fun _ h => List.mem_cons_of_mem _ (List.mem_append_right _ h)) (by decide +kernel))
set_option maxRecDepth 20000 in
theorem gX0_movesOf_X0_ownCost : GoodIn wsX0_movesOf (wsV RX0 106 RX0 yX0_ownCost wsX0_ownCost) := goodIn_app (goodIn_of _ (by decide +kernel)) ggX0_movesOf_X0_ownCost
theorem dX0_movesOf_27 : decode cX0_movesOf 27 = .ok (.istore 4, 2) := by decide +kernel
theorem dX0_movesOf_29 : decode cX0_movesOf 29 = .ok (.iconst 0, 1) := by decide +kernel
theorem dX0_movesOf_30 : decode cX0_movesOf 30 = .ok (.istore 5, 2) := by decide +kernel
theorem dX0_movesOf_32 : decode cX0_movesOf 32 = .ok (.iload 5, 2) := by decide +kernel
theorem dX0_movesOf_34 : decode cX0_movesOf 34 = .ok (.aload_n 0, 1) := by decide +kernel
theorem dX0_movesOf_35 : decode cX0_movesOf 35 = .ok (.getfield 20, 3) := by decide +kernel
theorem dX0_movesOf_38 : decode cX0_movesOf 38 = .ok (.iload_n 3, 1) := by decide +kernel
theorem dX0_movesOf_39 : decode cX0_movesOf 39 = .ok (.aaload, 1) := by decide +kernel
theorem dX0_movesOf_40 : decode cX0_movesOf 40 = .ok (.getfield 51, 3) := by decide +kernel
theorem dX0_movesOf_43 : decode cX0_movesOf 43 = .ok (.if_icmp .ge 44, 3) := by decide +kernel
theorem dX0_movesOf_46 : decode cX0_movesOf 46 = .ok (.aload_n 0, 1) := by decide +kernel
theorem dX0_movesOf_47 : decode cX0_movesOf 47 = .ok (.aload_n 1, 1) := by decide +kernel
theorem dX0_movesOf_48 : decode cX0_movesOf 48 = .ok (.iload_n 3, 1) := by decide +kernel
theorem dX0_movesOf_49 : decode cX0_movesOf 49 = .ok (.iload 5, 2) := by decide +kernel
theorem dX0_movesOf_51 : decode cX0_movesOf 51 = .ok (.invokevirtual 84, 3) := by decide +kernel
set_option maxRecDepth 20000 in
theorem ggX0_movesOf_X0_isOpen : GoodIn wsX0_movesOf wsX0_isOpen := goodIn_ca (goodIn_r _ [44, 2, 45, 25, 26, 27, 28, 29, 30, 31, 46, 47, 48, 49, 56, 57, 58, 50, 51, 52, 53, 54, 55] (by decide +kernel) (by decide +kernel)) (goodIn_sub (fun _ h => List.mem_cons_of_mem _ (List.mem_append_right _ h)) (by decide +kernel))
set_option maxRecDepth 20000 in
theorem gX0_movesOf_X0_isOpen : GoodIn wsX0_movesOf (wsV RX0 84 RX0 yX0_isOpen wsX0_isOpen) := goodIn_app (goodIn_of _ (by decide +kernel)) ggX0_movesOf_X0_isOpen
theorem dX0_movesOf_54 : decode cX0_movesOf 54 = .ok (.ifCond .eq 27, 3) := by decide +kernel
theorem dX0_movesOf_57 : decode cX0_movesOf 57 = .ok (.aload_n 0, 1) := by decide +kernel
theorem dX0_movesOf_58 : decode cX0_movesOf 58 = .ok (.aload_n 1, 1) := by decide +kernel
theorem dX0_movesOf_59 : decode cX0_movesOf 59 = .ok (.iload_n 3, 1) := by decide +kernel
theorem dX0_movesOf_60 : decode cX0_movesOf 60 = .ok (.iload 5, 2) := by decide +kernel
theorem dX0_movesOf_62 : decode cX0_movesOf 62 = .ok (.invokevirtual 94, 3) := by decide +kernel
set_option maxRecDepth 20000 in
theorem ggX0_movesOf_X0_costAlone : GoodIn wsX0_movesOf wsX0_costAlone := goodIn_ca (goodIn_r _ [18, 2, 10, 19, 20, 21, 22, 23, 24, 25, 26, 27, 28, 29, 30, 31, 32, 33, 34, 35, 36, 37, 38, 39, 40, 46, 47, 48, 49, 56, 57, 58, 50, 51, 52, 53, 54, 55, 59, 60, 61, 62, 63, 64, 65] (by decide +kernel) (by decide +kernel)) (goodIn_sub (fun _ h => List.mem_cons_of_mem _ (List.mem_append_right _ h)) (by decide +kernel))
set_option maxRecDepth 20000 in
theorem gX0_movesOf_X0_costAlone : GoodIn wsX0_movesOf (wsV RX0 94 RX0 yX0_costAlone wsX0_costAlone) := goodIn_app (goodIn_of _ (by decide +kernel)) ggX0_movesOf_X0_costAlone
theorem dX0_movesOf_65 : decode cX0_movesOf 65 = .ok (.iload 4, 2) := by decide +kernel
theorem dX0_movesOf_67 : decode cX0_movesOf 67 = .ok (.if_icmp .ge 14, 3) := by decide +kernel
theorem dX0_movesOf_81 : decode cX0_movesOf 81 = .ok (.iinc 5 1, 3) := by decide +kernel
theorem dX0_movesOf_84 : decode cX0_movesOf 84 = .ok (.goto (-52), 3) := by decide +kernel
theorem dX0_movesOf_70 : decode cX0_movesOf 70 = .ok (.iload_n 2, 1) := by decide +kernel
theorem dX0_movesOf_71 : decode cX0_movesOf 71 = .ok (.iconst 1, 1) := by decide +kernel
theorem dX0_movesOf_72 : decode cX0_movesOf 72 = .ok (.iload_n 3, 1) := by decide +kernel
theorem dX0_movesOf_73 : decode cX0_movesOf 73 = .ok (.iconst 5, 1) := by decide +kernel
theorem dX0_movesOf_74 : decode cX0_movesOf 74 = .ok (.imul, 1) := by decide +kernel
theorem dX0_movesOf_75 : decode cX0_movesOf 75 = .ok (.iload 5, 2) := by decide +kernel
theorem dX0_movesOf_77 : decode cX0_movesOf 77 = .ok (.iadd, 1) := by decide +kernel
theorem dX0_movesOf_78 : decode cX0_movesOf 78 = .ok (.ishl, 1) := by decide +kernel
theorem dX0_movesOf_79 : decode cX0_movesOf 79 = .ok (.ior, 1) := by decide +kernel
theorem dX0_movesOf_80 : decode cX0_movesOf 80 = .ok (.istore_n 2, 1) := by decide +kernel
set_option maxHeartbeats 4000000 in
set_option maxRecDepth 100000 in
theorem b_X0_movesOf {X : VC} {μ : Mem} (y : Nat) (hy : y < 2) (hW : WF μ) (hB : PB μ y) (K : vK X cX0_movesOf 6 RX0 wsX0_movesOf ({ frames := 3, cells := 0, slots := 0, locals := 72 } : Room)) (hret : ∀ (z : Int) (ν : Mem), (fun (z : Int) (ν : Mem) => z = mvs μ y ∧ ν = μ) z ν → ∀ n pc k1 k2 lv, k1 ≤ 0 → k2 ≤ 0 → decode cX0_movesOf pc = .ok (.ireturn, 1) → vW X n pc k1 k2 lv [.int (iZ z)] ν) : vW X 6 0 0 0 [(0, .ref (vAd X 1)), (1, .ref (vAd X (2 + y)))] [] μ := by
  have hpc := hW.pc6
  refine v_iconst K dX0_movesOf_0 ?_
  refine v_istore_n [(2, .int (iZ 0)), (0, .ref (vAd X 1)), (1, .ref (vAd X (2 + y)))] K dX0_movesOf_1 (by decide) rfl ?_
  refine v_iconst K dX0_movesOf_2 ?_
  refine v_istore_n [(3, .int (iZ 0)), (2, .int (iZ 0)), (0, .ref (vAd X 1)), (1, .ref (vAd X (2 + y)))] K dX0_movesOf_3 (by decide) rfl ?_
  have L4 : ∀ (fuel : Nat) (p : Nat) (hm : 7 - p < fuel) (hp : p ≤ pcn μ), vW X 6 4 0 0 [(0, .ref (vAd X 1)), (1, .ref (vAd X (2 + y))), (2, .int (iZ (sm (5 * p) (mvT μ y)))), (3, .int (iZ (p : Int)))] [] μ := by
    intro fuel
    induction fuel with
    | zero => intro p hm; exact absurd hm (Nat.not_lt_zero _)
    | succ fuel ih4 =>
      intro p hm hp
      refine v_iload_n 3 K dX0_movesOf_4 rfl ?_
      refine v_aload_n 0 K dX0_movesOf_5 rfl ?_
      refine v_get (c := 1) (k := 3) (C := RX0) (T := TX0) (N := 4) (v := .int (iZ (μ 1 3))) K isO_Bd rfl (fun _ h => (List.mem_cons_of_mem _ (List.mem_append_left _ (List.mem_append_left _ (List.mem_append_left _ (List.mem_append_left _ (List.mem_append_right _ h))))))) (by decide) (List.mem_cons_of_mem _ (List.mem_append_left _ (List.mem_append_left _ (List.mem_append_left _ (List.mem_append_left _ (List.mem_append_left _ (List.mem_append_left _ (List.mem_of_getElem? (i := 0) rfl)))))))) rfl dX0_movesOf_6 rfl ?_
      refine v_icmp_ge 93 K dX0_movesOf_9 (by decide) (by omega) (by omega) (fun c9 => ?_) (fun c9 => ?_)
      · refine v_iload_n 2 K dX0_movesOf_93 rfl ?_
        exact hret _ _ ⟨(by unfold mvs; rw [show pcn μ = p by omega]), rfl⟩ _ _ _ _ _ (Nat.le_of_ble_eq_true rfl) (Nat.le_of_ble_eq_true rfl) dX0_movesOf_94
      · have hpl := hW.pl (p := p) (by omega)
        have hch := hB.1 p (by omega)
        have hak := ask_01 μ y p
        have hc1 := cst_rng hW (y := y) (p := p) (by omega) (μ (5 + 2 * y) p)
        refine v_aload_n 0 K dX0_movesOf_12 rfl ?_
        refine v_aload_n 1 K dX0_movesOf_13 rfl ?_
        refine v_iload_n 3 K dX0_movesOf_14 rfl ?_
        refine v_callVir (c := 1) (As := [.ref (vAd X (2 + y)), .int (iZ (p : Int))]) (rest := []) K isO_Bd rfl 2 (c_X0_isAsked X.1.2.1 K.2.2.2.2.2.2 _ _ _ μ y p hy (by omega) hW hB) gX0_movesOf_X0_isAsked rfl rfl rfl (by decide +kernel) ⟨(Nat.le_of_ble_eq_true rfl), (Nat.le_of_ble_eq_true rfl)⟩ rfl rfl (Nat.le_of_ble_eq_true rfl) dX0_movesOf_15 ⟨(Nat.le_of_ble_eq_true rfl), (Nat.le_of_ble_eq_true rfl)⟩ ?_
        refine v_if_eq 87 K dX0_movesOf_18 (by decide) (by omega) (fun c18 => ?_) (fun c18 => ?_)
        · refine v_iinc 3 [(3, .int (iZ ((p : Int) + 1))), (0, .ref (vAd X 1)), (1, .ref (vAd X (2 + y))), (2, .int (iZ (sm (5 * p) (mvT μ y))))] K dX0_movesOf_87 rfl (by decide) rfl ?_
          refine v_goto 4 K dX0_movesOf_90 (by decide) ?_
          refine v_sub [1, 2, 3, 0] rfl ?_
          refine v_eq (lv1 := [(0, .ref (vAd X 1)), (1, .ref (vAd X (2 + y))), (2, .int (iZ (sm (5 * (p + 1)) (mvT μ y)))), (3, .int (iZ (((p + 1) : Nat) : Int)))]) (st1 := []) (v_c0 (v_c0 (v_cI (by first | exact (mv_tail 5 0 (by omega) (fun j _ hj => mvT_n hj (fun q => by have := q.1; omega))).symm | exact (mv_tail (5 - w) w (by omega) (fun j hj1 hj => mvT_n hj (fun q => by have := q.2.1; omega))).symm) (v_cI (by first | rfl | omega) rfl)))) rfl ?_
          exact ih4 (p + 1) (by omega) (by omega)
        · refine v_aload_n 0 K dX0_movesOf_21 rfl ?_
          refine v_aload_n 1 K dX0_movesOf_22 rfl ?_
          refine v_iload_n 3 K dX0_movesOf_23 rfl ?_
          refine v_callVir (c := 1) (As := [.ref (vAd X (2 + y)), .int (iZ (p : Int))]) (rest := []) K isO_Bd rfl 2 (c_X0_ownCost X.1.2.1 K.2.2.2.2.2.2 _ _ _ μ y p hy (by omega) hW hB) gX0_movesOf_X0_ownCost rfl rfl rfl (by decide +kernel) ⟨(Nat.le_of_ble_eq_true rfl), (Nat.le_of_ble_eq_true rfl)⟩ rfl rfl (Nat.le_of_ble_eq_true rfl) dX0_movesOf_24 ⟨(Nat.le_of_ble_eq_true rfl), (Nat.le_of_ble_eq_true rfl)⟩ ?_
          refine v_istore [(4, .int (iZ (cst μ y p (μ (5 + 2 * y) p)))), (0, .ref (vAd X 1)), (1, .ref (vAd X (2 + y))), (2, .int (iZ (sm (5 * p) (mvT μ y)))), (3, .int (iZ (p : Int)))] K dX0_movesOf_27 (by decide) rfl ?_
          refine v_iconst K dX0_movesOf_29 ?_
          refine v_istore [(5, .int (iZ 0)), (4, .int (iZ (cst μ y p (μ (5 + 2 * y) p)))), (0, .ref (vAd X 1)), (1, .ref (vAd X (2 + y))), (2, .int (iZ (sm (5 * p) (mvT μ y)))), (3, .int (iZ (p : Int)))] K dX0_movesOf_30 (by decide) rfl ?_
          have L32 : ∀ (fuel : Nat) (w : Nat) (hm : 6 - w < fuel) (hw : (w : Int) ≤ μ (37 + p) 3), vW X 6 32 0 0 [(0, .ref (vAd X 1)), (1, .ref (vAd X (2 + y))), (2, .int (iZ (sm (5 * p + w) (mvT μ y)))), (3, .int (iZ (p : Int))), (4, .int (iZ (cst μ y p (μ (5 + 2 * y) p)))), (5, .int (iZ (w : Int)))] [] μ := by
            intro fuel
            induction fuel with
            | zero => intro w hm; exact absurd hm (Nat.not_lt_zero _)
            | succ fuel ih32 =>
              intro w hm hw
              refine v_iload 5 K dX0_movesOf_32 rfl ?_
              refine v_aload_n 0 K dX0_movesOf_34 rfl ?_
              refine v_get (c := 1) (k := 1) (C := RX0) (T := TX0) (N := 4) (v := .ref (vAd X 20)) K isO_Bd rfl (fun _ h => (List.mem_cons_of_mem _ (List.mem_append_left _ (List.mem_append_left _ (List.mem_append_left _ (List.mem_append_left _ (List.mem_append_right _ h))))))) (by decide) (List.mem_cons_of_mem _ (List.mem_append_left _ (List.mem_append_left _ (List.mem_append_left _ (List.mem_append_left _ (List.mem_append_left _ (List.mem_append_left _ (List.mem_of_getElem? (i := 1) rfl)))))))) rfl dX0_movesOf_35 rfl ?_
              refine v_iload_n 3 K dX0_movesOf_38 rfl ?_
              refine v_aald (c := 20) p K isQ_Py rfl rfl (by omega) dX0_movesOf_39 ?_
              refine v_get (c := (37 + p)) (k := 3) (C := RX4) (T := TX4) (N := 6) (v := .int (iZ (μ (37 + p) 3))) K (isO_Py (p := p) (by omega)) rfl (fun _ h => (List.mem_cons_of_mem _ (List.mem_append_left _ (List.mem_append_left _ (List.mem_append_left _ (List.mem_append_right _ h)))))) (by decide) (List.mem_cons_of_mem _ (List.mem_append_left _ (List.mem_append_left _ (List.mem_append_left _ (List.mem_append_left _ (List.mem_append_left _ (List.mem_append_left _ (List.mem_of_getElem? (i := 2) rfl)))))))) rfl dX0_movesOf_40 rfl ?_
              refine v_icmp_ge 87 K dX0_movesOf_43 (by decide) (by omega) (by omega) (fun c43 => ?_) (fun c43 => ?_)
              · refine v_iinc 3 [(3, .int (iZ ((p : Int) + 1))), (0, .ref (vAd X 1)), (1, .ref (vAd X (2 + y))), (2, .int (iZ (sm (5 * p + w) (mvT μ y)))), (4, .int (iZ (cst μ y p (μ (5 + 2 * y) p)))), (5, .int (iZ (w : Int)))] K dX0_movesOf_87 rfl (by decide) rfl ?_
                refine v_goto 4 K dX0_movesOf_90 (by decide) ?_
                refine v_sub [1, 2, 3, 0] rfl ?_
                refine v_eq (lv1 := [(0, .ref (vAd X 1)), (1, .ref (vAd X (2 + y))), (2, .int (iZ (sm (5 * (p + 1)) (mvT μ y)))), (3, .int (iZ (((p + 1) : Nat) : Int)))]) (st1 := []) (v_c0 (v_c0 (v_cI (by first | exact (mv_tail 5 0 (by omega) (fun j _ hj => mvT_n hj (fun q => by have := q.1; omega))).symm | exact (mv_tail (5 - w) w (by omega) (fun j hj1 hj => mvT_n hj (fun q => by have := q.2.1; omega))).symm) (v_cI (by first | rfl | omega) rfl)))) rfl ?_
                exact ih4 (p + 1) (by omega) (by omega)
              · have hc2 := cst_rng hW (y := y) (p := p) (by omega) (w : Int)
                have hmv := mv_rng μ y (5 * p + w)
                have hp2 := p2_le (5 * p + w) (by omega)
                refine v_aload_n 0 K dX0_movesOf_46 rfl ?_
                refine v_aload_n 1 K dX0_movesOf_47 rfl ?_
                refine v_iload_n 3 K dX0_movesOf_48 rfl ?_
                refine v_iload 5 K dX0_movesOf_49 rfl ?_
                refine v_callVir (c := 1) (As := [.ref (vAd X (2 + y)), .int (iZ (p : Int)), .int (iZ (w : Int))]) (rest := []) K isO_Bd rfl 3 (c_X0_isOpen X.1.2.1 K.2.2.2.2.2.2 _ _ _ μ y p (w : Int) hy (by omega) hW (by omega) hB.2.2) gX0_movesOf_X0_isOpen rfl rfl rfl (by decide +kernel) ⟨(Nat.le_of_ble_eq_true rfl), (Nat.le_of_ble_eq_true rfl)⟩ rfl rfl (Nat.le_of_ble_eq_true rfl) dX0_movesOf_51 ⟨(Nat.le_of_ble_eq_true rfl), (Nat.le_of_ble_eq_true rfl)⟩ ?_
                refine v_if_eq 81 K dX0_movesOf_54 (by decide) (by decide) (fun c54 => (by exfalso; omega)) (fun c54 => ?_)
                refine v_aload_n 0 K dX0_movesOf_57 rfl ?_
                refine v_aload_n 1 K dX0_movesOf_58 rfl ?_
                refine v_iload_n 3 K dX0_movesOf_59 rfl ?_
                refine v_iload 5 K dX0_movesOf_60 rfl ?_
                refine v_callVir (c := 1) (As := [.ref (vAd X (2 + y)), .int (iZ (p : Int)), .int (iZ (w : Int))]) (rest := []) K isO_Bd rfl 3 (c_X0_costAlone X.1.2.1 K.2.2.2.2.2.2 _ _ _ μ y p (w : Int) hy (by omega) hW hB (by omega)) gX0_movesOf_X0_costAlone rfl rfl rfl (by decide +kernel) ⟨(Nat.le_of_ble_eq_true rfl), (Nat.le_of_ble_eq_true rfl)⟩ rfl rfl (Nat.le_of_ble_eq_true rfl) dX0_movesOf_62 ⟨(Nat.le_of_ble_eq_true rfl), (Nat.le_of_ble_eq_true rfl)⟩ ?_
                refine v_iload 4 K dX0_movesOf_65 rfl ?_
                refine v_icmp_ge 81 K dX0_movesOf_67 (by decide) (by omega) (by omega) (fun c67 => ?_) (fun c67 => ?_)
                · refine v_iinc 5 [(5, .int (iZ ((w : Int) + 1))), (0, .ref (vAd X 1)), (1, .ref (vAd X (2 + y))), (2, .int (iZ (sm (5 * p + w) (mvT μ y)))), (3, .int (iZ (p : Int))), (4, .int (iZ (cst μ y p (μ (5 + 2 * y) p))))] K dX0_movesOf_81 rfl (by decide) rfl ?_
                  refine v_goto 32 K dX0_movesOf_84 (by decide) ?_
                  refine v_sub [1, 2, 3, 4, 5, 0] rfl ?_
                  refine v_eq (lv1 := [(0, .ref (vAd X 1)), (1, .ref (vAd X (2 + y))), (2, .int (iZ (sm (5 * p + (w + 1)) (mvT μ y)))), (3, .int (iZ (p : Int))), (4, .int (iZ (cst μ y p (μ (5 + 2 * y) p)))), (5, .int (iZ (((w + 1) : Nat) : Int)))]) (st1 := []) (v_c0 (v_c0 (v_cI (show _ = sm (5 * p + w) (mvT μ y) + mvT μ y (5 * p + w) by first | rw [mvT_y (by omega) ⟨(by omega), (by omega), (by omega)⟩] | (rw [mvT_n (by omega) (fun q => by have := q.2.2; omega)]; omega)) (v_c0 (v_c0 (v_cI (by first | rfl | omega) rfl)))))) rfl ?_
                  exact ih32 (w + 1) (by omega) (by omega)
                · refine v_iload_n 2 K dX0_movesOf_70 rfl ?_
                  refine v_iconst K dX0_movesOf_71 ?_
                  refine v_iload_n 3 K dX0_movesOf_72 rfl ?_
                  refine v_iconst K dX0_movesOf_73 ?_
                  refine v_imul K dX0_movesOf_74 ?_
                  refine v_iload 5 K dX0_movesOf_75 rfl ?_
                  refine v_iadd K dX0_movesOf_77 ?_
                  refine v_ishl (z := ((2 ^ (5 * p + w) : Nat) : Int)) (by rw [show (((p : Int) * 5) + (w : Int)) = ((5 * p + w : Nat) : Int) by omega]; exact iZ_shl1 _ (by omega)) K dX0_movesOf_78 ?_
                  refine v_ior (z := (sm (5 * p + w) (mvT μ y) + ((2 ^ (5 * p + w) : Nat) : Int))) (iZ_or_pow hmv) K dX0_movesOf_79 ?_
                  refine v_istore_n [(2, .int (iZ (sm (5 * p + w) (mvT μ y) + ((2 ^ (5 * p + w) : Nat) : Int)))), (0, .ref (vAd X 1)), (1, .ref (vAd X (2 + y))), (3, .int (iZ (p : Int))), (4, .int (iZ (cst μ y p (μ (5 + 2 * y) p)))), (5, .int (iZ (w : Int)))] K dX0_movesOf_80 (by decide) rfl ?_
                  refine v_iinc 5 [(5, .int (iZ ((w : Int) + 1))), (2, .int (iZ (sm (5 * p + w) (mvT μ y) + ((2 ^ (5 * p + w) : Nat) : Int)))), (0, .ref (vAd X 1)), (1, .ref (vAd X (2 + y))), (3, .int (iZ (p : Int))), (4, .int (iZ (cst μ y p (μ (5 + 2 * y) p))))] K dX0_movesOf_81 rfl (by decide) rfl ?_
                  refine v_goto 32 K dX0_movesOf_84 (by decide) ?_
                  refine v_sub [2, 3, 1, 4, 5, 0] rfl ?_
                  refine v_eq (lv1 := [(0, .ref (vAd X 1)), (1, .ref (vAd X (2 + y))), (2, .int (iZ (sm (5 * p + (w + 1)) (mvT μ y)))), (3, .int (iZ (p : Int))), (4, .int (iZ (cst μ y p (μ (5 + 2 * y) p)))), (5, .int (iZ (((w + 1) : Nat) : Int)))]) (st1 := []) (v_c0 (v_c0 (v_cI (show _ = sm (5 * p + w) (mvT μ y) + mvT μ y (5 * p + w) by first | rw [mvT_y (by omega) ⟨(by omega), (by omega), (by omega)⟩] | (rw [mvT_n (by omega) (fun q => by have := q.2.2; omega)]; omega)) (v_c0 (v_c0 (v_cI (by first | rfl | omega) rfl)))))) rfl ?_
                  exact ih32 (w + 1) (by omega) (by omega)
          refine v_sub [2, 3, 4, 5, 1, 0] rfl ?_
          refine v_eq (lv1 := [(0, .ref (vAd X 1)), (1, .ref (vAd X (2 + y))), (2, .int (iZ (sm (5 * p + 0) (mvT μ y)))), (3, .int (iZ (p : Int))), (4, .int (iZ (cst μ y p (μ (5 + 2 * y) p)))), (5, .int (iZ ((0 : Nat) : Int)))]) (st1 := []) (v_c0 (v_c0 (v_cI (by first | rfl | omega) (v_c0 (v_c0 (v_cI (by first | rfl | omega) rfl)))))) rfl ?_
          exact L32 (6 - 0 + 1) 0 (by omega) (by omega)
  refine v_sub [2, 3, 1, 0] rfl ?_
  refine v_eq (lv1 := [(0, .ref (vAd X 1)), (1, .ref (vAd X (2 + y))), (2, .int (iZ (sm (5 * 0) (mvT μ y)))), (3, .int (iZ ((0 : Nat) : Int)))]) (st1 := []) (v_c0 (v_c0 (v_cI (by first | rfl | omega) (v_cI (by first | rfl | omega) rfl)))) rfl ?_
  exact L4 (7 - 0 + 1) 0 (by omega) (by omega)
theorem c_X0_movesOf (l : Launch) (hl : l.stackTraces = false) (D : va_G) (cy : Nat → ClassId) (ad : Nat → Nat) (μ : Mem) (y : Nat) (hy : y < 2) (hW : WF μ) (hB : PB μ y) : cI l yX0_movesOf wsX0_movesOf ({ frames := 3, cells := 0, slots := 0, locals := 72 } : Room) D cy ad μ [.ref (ad 1), .ref (ad (2 + y))] (fun (z : Int) (ν : Mem) => z = mvs μ y ∧ ν = μ) :=
  m_int (av := (fun ad => [.ref (ad 1), .ref (ad (2 + y))])) hl (by decide) rfl rfl (Nat.le_of_ble_eq_true rfl) (fun _ _ _ => rfl) (fun X K hret => b_X0_movesOf y hy hW hB K hret)
