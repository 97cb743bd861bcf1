theorem dJ9_floorMod_7cf53_0 : decode cJ9_floorMod_7cf53 0 = .ok (.iload_n 0, 1) := by decide +kernel
theorem dJ9_floorMod_7cf53_1 : decode cJ9_floorMod_7cf53 1 = .ok (.iload_n 1, 1) := by decide +kernel
theorem dJ9_floorMod_7cf53_2 : decode cJ9_floorMod_7cf53 2 = .ok (.irem, 1) := by decide +kernel
theorem dJ9_floorMod_7cf53_3 : decode cJ9_floorMod_7cf53 3 = .ok (.istore_n 2, 1) := by decide +kernel
theorem dJ9_floorMod_7cf53_4 : decode cJ9_floorMod_7cf53 4 = .ok (.iload_n 0, 1) := by decide +kernel
theorem dJ9_floorMod_7cf53_5 : decode cJ9_floorMod_7cf53 5 = .ok (.iload_n 1, 1) := by decide +kernel
theorem dJ9_floorMod_7cf53_6 : decode cJ9_floorMod_7cf53 6 = .ok (.ixor, 1) := by decide +kernel
theorem dJ9_floorMod_7cf53_7 : decode cJ9_floorMod_7cf53 7 = .ok (.ifCond .ge 11, 3) := by decide +kernel
theorem dJ9_floorMod_7cf53_18 : decode cJ9_floorMod_7cf53 18 = .ok (.iload_n 2, 1) := by decide +kernel
theorem dJ9_floorMod_7cf53_19 : decode cJ9_floorMod_7cf53 19 = .ok (.ireturn, 1) := by decide +kernel
set_option maxHeartbeats 4000000 in
set_option maxRecDepth 100000 in
theorem b_J9_floorMod_7cf53 {X : VC} {μ : Mem} (a : Int) (b : Int) (ha : 0 ≤ a ∧ a ≤ 2147483647) (hb : 0 < b ∧ b ≤ 2147483647) (K : vK X cJ9_floorMod_7cf53 3 RJ9 wsJ9_floorMod_7cf53 ({ frames := 0, cells := 0, slots := 0, locals := 0 } : Room)) (hret : ∀ (z : Int) (ν : Mem), (fun (z : Int) (ν : Mem) => z = a % b ∧ ν = μ) z ν → ∀ n pc k1 k2 lv, k1 ≤ 0 → k2 ≤ 0 → decode cJ9_floorMod_7cf53 pc = .ok (.ireturn, 1) → vW X n pc k1 k2 lv [.int (iZ z)] ν) : vW X 3 0 0 0 [(0, .int (iZ a)), (1, .int (iZ b))] [] μ := by
  obtain ⟨hx1, hx2⟩ := iZ_xor ha (show 0 ≤ b ∧ b ≤ 2147483647 by omega)
  refine v_iload_n 0 K dJ9_floorMod_7cf53_0 rfl ?_
  refine v_iload_n 1 K dJ9_floorMod_7cf53_1 rfl ?_
  refine v_irem (by omega) (by omega) K dJ9_floorMod_7cf53_2 ?_
  refine v_istore_n [(2, .int (iZ (a % b))), (0, .int (iZ a)), (1, .int (iZ b))] K dJ9_floorMod_7cf53_3 (by decide) rfl ?_
  refine v_iload_n 1 K dJ9_floorMod_7cf53_4 rfl ?_
  refine v_iload_n 2 K dJ9_floorMod_7cf53_5 rfl ?_
  refine v_ixor (z := ((a.toNat ^^^ b.toNat : Nat) : Int)) hx1 K dJ9_floorMod_7cf53_6 ?_
  refine v_if_ge 18 K dJ9_floorMod_7cf53_7 (by decide) (by omega) (fun c7 => ?_) (fun c7 => (by exfalso; omega))
  refine v_iload_n 0 K dJ9_floorMod_7cf53_18 rfl ?_
  exact hret _ _ ⟨rfl, rfl⟩ _ _ _ _ _ (Nat.le_of_ble_eq_true rfl) (Nat.le_of_ble_eq_true rfl) dJ9_floorMod_7cf53_19
theorem c_J9_floorMod_7cf53 (l : Launch) (hl : l.stackTraces = false) (D : va_G) (cy : Nat → ClassId) (ad : Nat → Nat) (μ : Mem) (a : Int) (b : Int) (ha : 0 ≤ a ∧ a ≤ 2147483647) (hb : 0 < b ∧ b ≤ 2147483647) : cI l yJ9_floorMod_7cf53 wsJ9_floorMod_7cf53 ({ frames := 0, cells := 0, slots := 0, locals := 0 } : Room) D cy ad μ [.int (iZ a), .int (iZ b)] (fun (z : Int) (ν : Mem) => z = a % b ∧ ν = μ) :=
  m_int (av := (fun ad => [.int (iZ a), .int (iZ b)])) hl (by decide) rfl rfl (Nat.le_of_ble_eq_true rfl) (fun _ _ _ => rfl) (fun X K hret => b_J9_floorMod_7cf53 a b ha hb K hret)
theorem dX0_firstToGain_0 : decode cX0_firstToGain 0 = .ok (.iconst 0, 1) := by decide +kernel
theorem dX0_firstToGain_1 : decode cX0_firstToGain 1 = .ok (.istore_n 3, 1) := by decide +kernel
theorem dX0_firstToGain_2 : decode cX0_firstToGain 2 = .ok (.iload_n 3, 1) := by decide +kernel
theorem dX0_firstToGain_3 : decode cX0_firstToGain 3 = .ok (.aload_n 0, 1) := by decide +kernel
theorem dX0_firstToGain_4 : decode cX0_firstToGain 4 = .ok (.getfield 42, 3) := by decide +kernel
theorem dX0_firstToGain_7 : decode cX0_firstToGain 7 = .ok (.if_icmp .ge 34, 3) := by decide +kernel
theorem dX0_firstToGain_41 : decode cX0_firstToGain 41 = .ok (.iconst (-1), 1) := by decide +kernel
theorem dX0_firstToGain_42 : decode cX0_firstToGain 42 = .ok (.ireturn, 1) := by decide +kernel
theorem dX0_firstToGain_10 : decode cX0_firstToGain 10 = .ok (.iload_n 2, 1) := by decide +kernel
theorem dX0_firstToGain_11 : decode cX0_firstToGain 11 = .ok (.iload_n 3, 1) := by decide +kernel
theorem dX0_firstToGain_12 : decode cX0_firstToGain 12 = .ok (.iadd, 1) := by decide +kernel
theorem dX0_firstToGain_13 : decode cX0_firstToGain 13 = .ok (.aload_n 0, 1) := by decide +kernel
theorem dX0_firstToGain_14 : decode cX0_firstToGain 14 = .ok (.getfield 42, 3) := by decide +kernel
theorem dX0_firstToGain_17 : decode cX0_firstToGain 17 = .ok (.invokestatic 113, 3) := by decide +kernel
set_option maxRecDepth 20000 in
theorem ggX0_firstToGain_J9_floorMod_7cf53 : GoodIn wsX0_firstToGain wsJ9_floorMod_7cf53 := goodIn_r _ [5] (by decide +kernel) (by decide +kernel)
set_option maxRecDepth 20000 in
theorem gX0_firstToGain_J9_floorMod_7cf53 : GoodIn wsX0_firstToGain (va_wsS RX0 113 yJ9_floorMod_7cf53 wsJ9_floorMod_7cf53) := goodIn_app (goodIn_of _ (by decide +kernel)) ggX0_firstToGain_J9_floorMod_7cf53
theorem dX0_firstToGain_20 : decode cX0_firstToGain 20 = .ok (.istore 4, 2) := by decide +kernel
theorem dX0_firstToGain_22 : decode cX0_firstToGain 22 = .ok (.aload_n 0, 1) := by decide +kernel
theorem dX0_firstToGain_23 : decode cX0_firstToGain 23 = .ok (.aload_n 1, 1) := by decide +kernel
theorem dX0_firstToGain_24 : decode cX0_firstToGain 24 = .ok (.iload 4, 2) := by decide +kernel
theorem dX0_firstToGain_26 : decode cX0_firstToGain 26 = .ok (.invokevirtual 119, 3) := by decide +kernel
set_option maxRecDepth 20000 in
theorem ggX0_firstToGain_X0_gainOf : GoodIn wsX0_firstToGain wsX0_gainOf := goodIn_ca (goodIn_r _ [10, 11, 12, 13, 9, 14, 15, 16, 17, 18, 19, 20, 21, 22, 23, 24, 25, 26, 27, 28, 29, 30, 31, 32, 33, 34, 35, 36, 37, 38, 39, 40, 41, 42, 43, 44, 45, 46, 47, 48, 49, 50, 51, 52, 53, 54, 55, 56, 57, 58, 59, 60, 61, 62, 63, 64, 65, 66, 67, 68, 69, 70, 71, 72, 73, 74, 75, 76, 77] (by decide +kernel) (by decide +kernel)) (goodIn_sub (fun _ h => List.mem_cons_of_mem _ (List.mem_append_right _ h)) (by decide +kernel))
set_option maxRecDepth 20000 in
theorem gX0_firstToGain_X0_gainOf : GoodIn wsX0_firstToGain (wsV RX0 119 RX0 yX0_gainOf wsX0_gainOf) := goodIn_app (goodIn_of _ (by decide +kernel)) ggX0_firstToGain_X0_gainOf
theorem dX0_firstToGain_29 : decode cX0_firstToGain 29 = .ok (.ifCond .le 6, 3) := by decide +kernel
theorem dX0_firstToGain_35 : decode cX0_firstToGain 35 = .ok (.iinc 3 1, 3) := by decide +kernel
theorem dX0_firstToGain_38 : decode cX0_firstToGain 38 = .ok (.goto (-36), 3) := by decide +kernel
theorem dX0_firstToGain_32 : decode cX0_firstToGain 32 = .ok (.iload 4, 2) := by decide +kernel
theorem dX0_firstToGain_34 : decode cX0_firstToGain 34 = .ok (.ireturn, 1) := by decide +kernel
set_option maxHeartbeats 4000000 in
set_option maxRecDepth 100000 in
theorem b_X0_firstToGain {X : VC} {μ : Mem} (y : Nat) (s : Nat) (hy : y < 2) (hs : s ≤ 100) (hW : WF μ) (hB : PB μ y) (K : vK X cX0_firstToGain 5 RX0 wsX0_firstToGain ({ frames := 4, cells := 0, slots := 0, locals := 98 } : Room)) (hret : ∀ (z : Int) (ν : Mem), (fun (z : Int) (ν : Mem) => ν = μ ∧ (FG μ y s z)) z ν → ∀ n pc k1 k2 lv, k1 ≤ 0 → k2 ≤ 0 → decode cX0_firstToGain pc = .ok (.ireturn, 1) → vW X n pc k1 k2 lv [.int (iZ z)] ν) : vW X 5 0 0 0 [(0, .ref (vAd X 1)), (1, .ref (vAd X (2 + y))), (2, .int (iZ (s : Int)))] [] μ := by
  have hpc := hW.pc6
  refine v_iconst K dX0_firstToGain_0 ?_
  refine v_istore_n [(3, .int (iZ 0)), (0, .ref (vAd X 1)), (1, .ref (vAd X (2 + y))), (2, .int (iZ (s : Int)))] K dX0_firstToGain_1 (by decide) rfl ?_
  have L2 : ∀ (fuel : Nat) (k : Nat) (hm : 7 - k < fuel) (hk : k ≤ pcn μ) (hn : ∀ j : Nat, j < k → gn μ y ((s + j) % pcn μ) ≤ 0), vW X 5 2 0 0 [(0, .ref (vAd X 1)), (1, .ref (vAd X (2 + y))), (2, .int (iZ (s : Int))), (3, .int (iZ (k : Int)))] [] μ := by
    intro fuel
    induction fuel with
    | zero => intro k hm; exact absurd hm (Nat.not_lt_zero _)
    | succ fuel ih2 =>
      intro k hm hk hn
      refine v_iload_n 3 K dX0_firstToGain_2 rfl ?_
      refine v_aload_n 0 K dX0_firstToGain_3 rfl ?_
      refine v_get (c := 1) (k := 3) (C := RX0) (T := TX0) (N := 4) (v := .int (iZ (μ 1 3))) K isO_Bd rfl (fun _ h => (List.mem_cons_of_mem _ (List.mem_append_left _ (List.mem_append_left _ (List.mem_append_left _ (List.mem_append_left _ (List.mem_append_right _ h))))))) (by decide) (List.mem_cons_of_mem _ (List.mem_append_left _ (List.mem_append_left _ (List.mem_append_left _ (List.mem_append_left _ (List.mem_append_left _ (List.mem_append_left _ (List.mem_of_getElem? (i := 0) rfl)))))))) rfl dX0_firstToGain_4 rfl ?_
      refine v_icmp_ge 41 K dX0_firstToGain_7 (by decide) (by omega) (by omega) (fun c7 => ?_) (fun c7 => ?_)
      · refine v_iconst K dX0_firstToGain_41 ?_
        exact hret _ _ ⟨rfl, Or.inl ⟨rfl, fun j hj => hn j (by omega)⟩⟩ _ _ _ _ _ (Nat.le_of_ble_eq_true rfl) (Nat.le_of_ble_eq_true rfl) dX0_firstToGain_42
      · have hm : (s + k) % pcn μ < pcn μ := Nat.mod_lt _ (by omega)
        have hg := gn_rng hW (y := y) (p := (s + k) % pcn μ) (by omega)
        refine v_iload_n 2 K dX0_firstToGain_10 rfl ?_
        refine v_iload_n 3 K dX0_firstToGain_11 rfl ?_
        refine v_iadd K dX0_firstToGain_12 ?_
        refine v_aload_n 0 K dX0_firstToGain_13 rfl ?_
        refine v_get (c := 1) (k := 3) (C := RX0) (T := TX0) (N := 4) (v := .int (iZ (μ 1 3))) K isO_Bd rfl (fun _ h => (List.mem_cons_of_mem _ (List.mem_append_left _ (List.mem_append_left _ (List.mem_append_left _ (List.mem_append_left _ (List.mem_append_right _ h))))))) (by decide) (List.mem_cons_of_mem _ (List.mem_append_left _ (List.mem_append_left _ (List.mem_append_left _ (List.mem_append_left _ (List.mem_append_left _ (List.mem_append_left _ (List.mem_of_getElem? (i := 0) rfl)))))))) rfl dX0_firstToGain_14 rfl ?_
        refine v_callSir (As := [.int (iZ ((s : Int) + (k : Int))), .int (iZ (μ 1 3))]) (rest := []) K 2 (c_J9_floorMod_7cf53 X.1.2.1 K.2.2.2.2.2.2 _ _ _ μ ((s : Int) + (k : Int)) (μ 1 3) (by omega) (by omega)) gX0_firstToGain_J9_floorMod_7cf53 rfl rfl rfl (by decide +kernel) ⟨(Nat.le_of_ble_eq_true rfl), (Nat.le_of_ble_eq_true rfl)⟩ rfl rfl (Nat.le_of_ble_eq_true rfl) dX0_firstToGain_17 ⟨(Nat.le_of_ble_eq_true rfl), (Nat.le_of_ble_eq_true rfl)⟩ ?_
        refine v_top (b := ((((s + k) % pcn μ) : Nat) : Int)) (congrArg iZ (by rw [hpc.2]; first | rfl | simp)) ?_
        refine v_istore [(4, .int (iZ ((((s + k) % pcn μ) : Nat) : Int))), (0, .ref (vAd X 1)), (1, .ref (vAd X (2 + y))), (2, .int (iZ (s : Int))), (3, .int (iZ (k : Int)))] K dX0_firstToGain_20 (by decide) rfl ?_
        refine v_aload_n 1 K dX0_firstToGain_22 rfl ?_
        refine v_aload_n 2 K dX0_firstToGain_23 rfl ?_
        refine v_iload 0 K dX0_firstToGain_24 rfl ?_
        refine v_callVir (c := 1) (As := [.ref (vAd X (2 + y)), .int (iZ ((((s + k) % pcn μ) : Nat) : Int))]) (rest := []) K isO_Bd rfl 2 (c_X0_gainOf X.1.2.1 K.2.2.2.2.2.2 _ _ _ μ y ((s + k) % pcn μ) hy (by omega) hW hB) gX0_firstToGain_X0_gainOf rfl rfl rfl (by decide +kernel) ⟨(Nat.le_of_ble_eq_true rfl), (Nat.le_of_ble_eq_true rfl)⟩ rfl rfl (Nat.le_of_ble_eq_true rfl) dX0_firstToGain_26 ⟨(Nat.le_of_ble_eq_true rfl), (Nat.le_of_ble_eq_true rfl)⟩ ?_
        refine v_if_le 35 K dX0_firstToGain_29 (by decide) (by omega) (fun c29 => ?_) (fun c29 => ?_)
        · refine v_iinc 4 [(3, .int (iZ ((k : Int) + 1))), (4, .int (iZ ((((s + k) % pcn μ) : Nat) : Int))), (0, .ref (vAd X 1)), (1, .ref (vAd X (2 + y))), (2, .int (iZ (s : Int)))] K dX0_firstToGain_35 rfl (by decide) rfl ?_
          refine v_goto 2 K dX0_firstToGain_38 (by decide) ?_
          refine v_sub [2, 3, 4, 0] rfl ?_
          refine v_eq (lv1 := [(0, .ref (vAd X 1)), (1, .ref (vAd X (2 + y))), (2, .int (iZ (s : Int))), (3, .int (iZ (((k + 1) : Nat) : Int)))]) (st1 := []) (v_c0 (v_c0 (v_c0 (v_cI (by first | rfl | omega) rfl)))) rfl ?_
          exact ih2 (k + 1) (by omega) (by omega) (fun j hj => by rcases (show j < k ∨ j = k by omega) with q | q; exact hn j q; rw [q]; omega)
        · refine v_iload 0 K dX0_firstToGain_32 rfl ?_
          exact hret _ _ ⟨rfl, Or.inr ⟨k, (by omega), (by omega), rfl, hn⟩⟩ _ _ _ _ _ (Nat.le_of_ble_eq_true rfl) (Nat.le_of_ble_eq_true rfl) dX0_firstToGain_34
  refine v_sub [1, 2, 3, 0] rfl ?_
  refine v_eq (lv1 := [(0, .ref (vAd X 1)), (1, .ref (vAd X (2 + y))), (2, .int (iZ (s : Int))), (3, .int (iZ ((0 : Nat) : Int)))]) (st1 := []) (v_c0 (v_c0 (v_c0 (v_cI (by first | rfl | omega) rfl)))) rfl ?_
  exact L2 (7 - 0 + 1) 0 (by omega) (by omega) (fun j hj => by omega)
theorem c_X0_firstToGain (l : Launch) (hl : l.stackTraces = false) (D : va_G) (cy : Nat → ClassId) (ad : Nat → Nat) (μ : Mem) (y : Nat) (s : Nat) (hy : y < 2) (hs : s ≤ 100) (hW : WF μ) (hB : PB μ y) : cI l yX0_firstToGain wsX0_firstToGain ({ frames := 4, cells := 0, slots := 0, locals := 98 } : Room) D cy ad μ [.ref (ad 1), .ref (ad (2 + y)), .int (iZ (s : Int))] (fun (z : Int) (ν : Mem) => ν = μ ∧ (FG μ y s z)) :=
  m_int (av := (fun ad => [.ref (ad 1), .ref (ad (2 + y)), .int (iZ (s : Int))])) hl (by decide) rfl rfl (Nat.le_of_ble_eq_true rfl) (fun _ _ _ => rfl) (fun X K hret => b_X0_firstToGain y s hy hs hW hB K hret)
theorem dX0_mostToGain_0 : decode cX0_mostToGain 0 = .ok (.iconst (-1), 1) := by decide +kernel
theorem dX0_mostToGain_1 : decode cX0_mostToGain 1 = .ok (.istore_n 2, 1) := by decide +kernel
theorem dX0_mostToGain_2 : decode cX0_mostToGain 2 = .ok (.iconst 0, 1) := by decide +kernel
theorem dX0_mostToGain_3 : decode cX0_mostToGain 3 = .ok (.istore_n 3, 1) := by decide +kernel
theorem dX0_mostToGain_4 : decode cX0_mostToGain 4 = .ok (.iconst 0, 1) := by decide +kernel
theorem dX0_mostToGain_5 : decode cX0_mostToGain 5 = .ok (.istore 4, 2) := by decide +kernel
theorem dX0_mostToGain_7 : decode cX0_mostToGain 7 = .ok (.iload 4, 2) := by decide +kernel
theorem dX0_mostToGain_9 : decode cX0_mostToGain 9 = .ok (.aload_n 0, 1) := by decide +kernel
theorem dX0_mostToGain_10 : decode cX0_mostToGain 10 = .ok (.getfield 42, 3) := by decide +kernel
theorem dX0_mostToGain_13 : decode cX0_mostToGain 13 = .ok (.if_icmp .ge 30, 3) := by decide +kernel
theorem dX0_mostToGain_43 : decode cX0_mostToGain 43 = .ok (.iload_n 2, 1) := by decide +kernel
theorem dX0_mostToGain_44 : decode cX0_mostToGain 44 = .ok (.ireturn, 1) := by decide +kernel
theorem dX0_mostToGain_16 : decode cX0_mostToGain 16 = .ok (.aload_n 0, 1) := by decide +kernel
theorem dX0_mostToGain_17 : decode cX0_mostToGain 17 = .ok (.aload_n 1, 1) := by decide +kernel
theorem dX0_mostToGain_18 : decode cX0_mostToGain 18 = .ok (.iload 4, 2) := by decide +kernel
theorem dX0_mostToGain_20 : decode cX0_mostToGain 20 = .ok (.invokevirtual 119, 3) := by decide +kernel
set_option maxRecDepth 20000 in
theorem ggX0_mostToGain_X0_gainOf : GoodIn wsX0_mostToGain wsX0_gainOf := goodIn_ca (goodIn_r _ [6, 7, 8, 9, 5, 10, 11, 12, 13, 14, 15, 16, 17, 18, 19, 20, 21, 22, 23, 24, 25, 26, 27, 28, 29, 30, 31, 32, 33, 34, 35, 36, 37, 38, 39, 40, 41, 42, 43, 44, 45, 46, 47, 48, 49, 50, 51, 52, 53, 54, 55, 56, 57, 58, 59, 60, 61, 62, 63, 64, 65, 66, 67, 68, 69, 70, 71, 72, 73] (by decide +kernel) (by decide +kernel)) (goodIn_sub (fun _ h => List.mem_cons_of_mem _ (List.mem_append_right _ h)) (by decide +kernel))
set_option maxRecDepth 20000 in
theorem gX0_mostToGain_X0_gainOf : GoodIn wsX0_mostToGain (wsV RX0 119 RX0 yX0_gainOf wsX0_gainOf) := goodIn_app (goodIn_of _ (by decide +kernel)) ggX0_mostToGain_X0_gainOf
theorem dX0_mostToGain_23 : decode cX0_mostToGain 23 = .ok (.istore 5, 2) := by decide +kernel
theorem dX0_mostToGain_25 : decode cX0_mostToGain 25 = .ok (.iload 5, 2) := by decide +kernel
theorem dX0_mostToGain_27 : decode cX0_mostToGain 27 = .ok (.iload_n 3, 1) := by decide +kernel
theorem dX0_mostToGain_28 : decode cX0_mostToGain 28 = .ok (.if_icmp .le 9, 3) := by decide +kernel
theorem dX0_mostToGain_37 : decode cX0_mostToGain 37 = .ok (.iinc 4 1, 3) := by decide +kernel
theorem dX0_mostToGain_40 : decode cX0_mostToGain 40 = .ok (.goto (-33), 3) := by decide +kernel
theorem dX0_mostToGain_31 : decode cX0_mostToGain 31 = .ok (.iload 4, 2) := by decide +kernel
theorem dX0_mostToGain_33 : decode cX0_mostToGain 33 = .ok (.istore_n 2, 1) := by decide +kernel
theorem dX0_mostToGain_34 : decode cX0_mostToGain 34 = .ok (.iload 5, 2) := by decide +kernel
theorem dX0_mostToGain_36 : decode cX0_mostToGain 36 = .ok (.istore_n 3, 1) := by decide +kernel
set_option maxHeartbeats 4000000 in
set_option maxRecDepth 100000 in
theorem b_X0_mostToGain {X : VC} {μ : Mem} (y : Nat) (hy : y < 2) (hW : WF μ) (hB : PB μ y) (K : vK X cX0_mostToGain 6 RX0 wsX0_mostToGain ({ frames := 4, cells := 0, slots := 0, locals := 98 } : Room)) (hret : ∀ (z : Int) (ν : Mem), (fun (z : Int) (ν : Mem) => z = (mgF μ y (pcn μ)).1 ∧ ν = μ) z ν → ∀ n pc k1 k2 lv, k1 ≤ 0 → k2 ≤ 0 → decode cX0_mostToGain pc = .ok (.ireturn, 1) → vW X n pc k1 k2 lv [.int (iZ z)] ν) : vW X 6 0 0 0 [(0, .ref (vAd X 1)), (1, .ref (vAd X (2 + y)))] [] μ := by
  have hpc := hW.pc6
  refine v_iconst K dX0_mostToGain_0 ?_
  refine v_istore_n [(2, .int (iZ (-1))), (0, .ref (vAd X 1)), (1, .ref (vAd X (2 + y)))] K dX0_mostToGain_1 (by decide) rfl ?_
  refine v_iconst K dX0_mostToGain_2 ?_
  refine v_istore_n [(3, .int (iZ 0)), (2, .int (iZ (-1))), (0, .ref (vAd X 1)), (1, .ref (vAd X (2 + y)))] K dX0_mostToGain_3 (by decide) rfl ?_
  refine v_iconst K dX0_mostToGain_4 ?_
  refine v_istore [(4, .int (iZ 0)), (3, .int (iZ 0)), (2, .int (iZ (-1))), (0, .ref (vAd X 1)), (1, .ref (vAd X (2 + y)))] K dX0_mostToGain_5 (by decide) rfl ?_
  have L7 : ∀ (fuel : Nat) (k : Nat) (hm : 7 - k < fuel) (hk : k ≤ pcn μ), vW X 6 7 0 0 [(0, .ref (vAd X 1)), (1, .ref (vAd X (2 + y))), (2, .int (iZ ((mgF μ y k).1))), (3, .int (iZ ((mgF μ y k).2))), (4, .int (iZ (k : Int)))] [] μ := by
    intro fuel
    induction fuel with
    | zero => intro k hm; exact absurd hm (Nat.not_lt_zero _)
    | succ fuel ih7 =>
      intro k hm hk
      refine v_iload 4 K dX0_mostToGain_7 rfl ?_
      refine v_aload_n 0 K dX0_mostToGain_9 rfl ?_
      refine v_get (c := 1) (k := 3) (C := RX0) (T := TX0) (N := 4) (v := .int (iZ (μ 1 3))) K isO_Bd rfl (fun _ h => (List.mem_cons_of_mem _ (List.mem_append_left _ (List.mem_append_left _ (List.mem_append_left _ (List.mem_append_left _ (List.mem_append_right _ h))))))) (by decide) (List.mem_cons_of_mem _ (List.mem_append_left _ (List.mem_append_left _ (List.mem_append_left _ (List.mem_append_left _ (List.mem_append_left _ (List.mem_append_left _ (List.mem_of_getElem? (i := 0) rfl)))))))) rfl dX0_mostToGain_10 rfl ?_
      refine v_icmp_ge 43 K dX0_mostToGain_13 (by decide) (by omega) (by omega) (fun c13 => ?_) (fun c13 => ?_)
      · refine v_iload_n 2 K dX0_mostToGain_43 rfl ?_
        exact hret _ _ ⟨(by rw [show pcn μ = k by omega]), rfl⟩ _ _ _ _ _ (Nat.le_of_ble_eq_true rfl) (Nat.le_of_ble_eq_true rfl) dX0_mostToGain_44
      · have hg := gn_rng hW (y := y) (p := k) (by omega)
        have hg2 := mgF_rng hW (y := y) k (by omega)
        refine v_aload_n 0 K dX0_mostToGain_16 rfl ?_
        refine v_aload_n 1 K dX0_mostToGain_17 rfl ?_
        refine v_iload 4 K dX0_mostToGain_18 rfl ?_
        refine v_callVir (c := 1) (As := [.ref (vAd X (2 + y)), .int (iZ (k : Int))]) (rest := []) K isO_Bd rfl 2 (c_X0_gainOf X.1.2.1 K.2.2.2.2.2.2 _ _ _ μ y k hy (by omega) hW hB) gX0_mostToGain_X0_gainOf rfl rfl rfl (by decide +kernel) ⟨(Nat.le_of_ble_eq_true rfl), (Nat.le_of_ble_eq_true rfl)⟩ rfl rfl (Nat.le_of_ble_eq_true rfl) dX0_mostToGain_20 ⟨(Nat.le_of_ble_eq_true rfl), (Nat.le_of_ble_eq_true rfl)⟩ ?_
        refine v_istore [(5, .int (iZ (gn μ y k))), (0, .ref (vAd X 1)), (1, .ref (vAd X (2 + y))), (2, .int (iZ ((mgF μ y k).1))), (3, .int (iZ ((mgF μ y k).2))), (4, .int (iZ (k : Int)))] K dX0_mostToGain_23 (by decide) rfl ?_
        refine v_iload 0 K dX0_mostToGain_25 rfl ?_
        refine v_iload_n 4 K dX0_mostToGain_27 rfl ?_
        refine v_icmp_le 37 K dX0_mostToGain_28 (by decide) (by omega) (by omega) (fun c28 => ?_) (fun c28 => ?_)
        · refine v_iinc 5 [(4, .int (iZ ((k : Int) + 1))), (5, .int (iZ (gn μ y k))), (0, .ref (vAd X 1)), (1, .ref (vAd X (2 + y))), (2, .int (iZ ((mgF μ y k).1))), (3, .int (iZ ((mgF μ y k).2)))] K dX0_mostToGain_37 rfl (by decide) rfl ?_
          refine v_goto 7 K dX0_mostToGain_40 (by decide) ?_
          refine v_sub [2, 3, 4, 5, 0] rfl ?_
          refine v_eq (lv1 := [(0, .ref (vAd X 1)), (1, .ref (vAd X (2 + y))), (2, .int (iZ ((mgF μ y (k + 1)).1))), (3, .int (iZ ((mgF μ y (k + 1)).2))), (4, .int (iZ (((k + 1) : Nat) : Int)))]) (st1 := []) (v_c0 (v_c0 (v_cI (by first | rw [mgF_y (by omega)] | rw [mgF_n (by omega)]) (v_cI (by first | rw [mgF_y (by omega)] | rw [mgF_n (by omega)]) (v_cI (by first | rfl | omega) rfl))))) rfl ?_
          exact ih7 (k + 1) (by omega) (by omega)
        · refine v_iload 5 K dX0_mostToGain_31 rfl ?_
          refine v_istore_n [(2, .int (iZ (k : Int))), (5, .int (iZ (gn μ y k))), (0, .ref (vAd X 1)), (1, .ref (vAd X (2 + y))), (3, .int (iZ ((mgF μ y k).2))), (4, .int (iZ (k : Int)))] K dX0_mostToGain_33 (by decide) rfl ?_
          refine v_iload 1 K dX0_mostToGain_34 rfl ?_
          refine v_istore_n [(3, .int (iZ (gn μ y k))), (2, .int (iZ (k : Int))), (5, .int (iZ (gn μ y k))), (0, .ref (vAd X 1)), (1, .ref (vAd X (2 + y))), (4, .int (iZ (k : Int)))] K dX0_mostToGain_36 (by decide) rfl ?_
          refine v_iinc 5 [(4, .int (iZ ((k : Int) + 1))), (3, .int (iZ (gn μ y k))), (2, .int (iZ (k : Int))), (5, .int (iZ (gn μ y k))), (0, .ref (vAd X 1)), (1, .ref (vAd X (2 + y)))] K dX0_mostToGain_37 rfl (by decide) rfl ?_
          refine v_goto 7 K dX0_mostToGain_40 (by decide) ?_
          refine v_sub [4, 5, 2, 1, 0] rfl ?_
          refine v_eq (lv1 := [(0, .ref (vAd X 1)), (1, .ref (vAd X (2 + y))), (2, .int (iZ ((mgF μ y (k + 1)).1))), (3, .int (iZ ((mgF μ y (k + 1)).2))), (4, .int (iZ (((k + 1) : Nat) : Int)))]) (st1 := []) (v_c0 (v_c0 (v_cI (by first | rw [mgF_y (by omega)] | rw [mgF_n (by omega)]) (v_cI (by first | rw [mgF_y (by omega)] | rw [mgF_n (by omega)]) (v_cI (by first | rfl | omega) rfl))))) rfl ?_
          exact ih7 (k + 1) (by omega) (by omega)
  refine v_sub [3, 4, 2, 1, 0] rfl ?_
  refine v_eq (lv1 := [(0, .ref (vAd X 1)), (1, .ref (vAd X (2 + y))), (2, .int (iZ ((mgF μ y 0).1))), (3, .int (iZ ((mgF μ y 0).2))), (4, .int (iZ ((0 : Nat) : Int)))]) (st1 := []) (v_c0 (v_c0 (v_cI (by first | rfl | omega) (v_cI (by first | rfl | omega) (v_cI (by first | rfl | omega) rfl))))) rfl ?_
  exact L7 (7 - 0 + 1) 0 (by omega) (by omega)
theorem c_X0_mostToGain (l : Launch) (hl : l.stackTraces = false) (D : va_G) (cy : Nat → ClassId) (ad : Nat → Nat) (μ : Mem) (y : Nat) (hy : y < 2) (hW : WF μ) (hB : PB μ y) : cI l yX0_mostToGain wsX0_mostToGain ({ frames := 4, cells := 0, slots := 0, locals := 98 } : Room) D cy ad μ [.ref (ad 1), .ref (ad (2 + y))] (fun (z : Int) (ν : Mem) => z = (mgF μ y (pcn μ)).1 ∧ ν = μ) :=
  m_int (av := (fun ad => [.ref (ad 1), .ref (ad (2 + y))])) hl (by decide) rfl rfl (Nat.le_of_ble_eq_true rfl) (fun _ _ _ => rfl) (fun X K hret => b_X0_mostToGain y hy hW hB K hret)
theorem dX0_countGainers_0 : decode cX0_countGainers 0 = .ok (.iconst 0, 1) := by decide +kernel
theorem dX0_countGainers_1 : decode cX0_countGainers 1 = .ok (.istore_n 2, 1) := by decide +kernel
theorem dX0_countGainers_2 : decode cX0_countGainers 2 = .ok (.iconst 0, 1) := by decide +kernel
theorem dX0_countGainers_3 : decode cX0_countGainers 3 = .ok (.istore_n 3, 1) := by decide +kernel
theorem dX0_countGainers_4 : decode cX0_countGainers 4 = .ok (.iload_n 3, 1) := by decide +kernel
theorem dX0_countGainers_5 : decode cX0_countGainers 5 = .ok (.aload_n 0, 1) := by decide +kernel
theorem dX0_countGainers_6 : decode cX0_countGainers 6 = .ok (.getfield 42, 3) := by decide +kernel
theorem dX0_countGainers_9 : decode cX0_countGainers 9 = .ok (.if_icmp .ge 21, 3) := by decide +kernel
theorem dX0_countGainers_30 : decode cX0_countGainers 30 = .ok (.iload_n 2, 1) := by decide +kernel
theorem dX0_countGainers_31 : decode cX0_countGainers 31 = .ok (.ireturn, 1) := by decide +kernel
theorem dX0_countGainers_12 : decode cX0_countGainers 12 = .ok (.aload_n 0, 1) := by decide +kernel
theorem dX0_countGainers_13 : decode cX0_countGainers 13 = .ok (.aload_n 1, 1) := by decide +kernel
theorem dX0_countGainers_14 : decode cX0_countGainers 14 = .ok (.iload_n 3, 1) := by decide +kernel
theorem dX0_countGainers_15 : decode cX0_countGainers 15 = .ok (.invokevirtual 119, 3) := by decide +kernel
set_option maxRecDepth 20000 in
theorem ggX0_countGainers_X0_gainOf : GoodIn wsX0_countGainers wsX0_gainOf := goodIn_ca (goodIn_r _ [6, 7, 8, 9, 5, 10, 11, 12, 13, 14, 15, 16, 17, 18, 19, 20, 21, 22, 23, 24, 25, 26, 27, 28, 29, 30, 31, 32, 33, 34, 35, 36, 37, 38, 39, 40, 41, 42, 43, 44, 45, 46, 47, 48, 49, 50, 51, 52, 53, 54, 55, 56, 57, 58, 59, 60, 61, 62, 63, 64, 65, 66, 67, 68, 69, 70, 71, 72, 73] (by decide +kernel) (by decide +kernel)) (goodIn_sub (fun _ h => List.mem_cons_of_mem _ (List.mem_append_right _ h)) (by decide +kernel))
set_option maxRecDepth 20000 in
theorem gX0_countGainers_X0_gainOf : GoodIn wsX0_countGainers (wsV RX0 119 RX0 yX0_gainOf wsX0_gainOf) := goodIn_app (goodIn_of _ (by decide +kernel)) ggX0_countGainers_X0_gainOf
theorem dX0_countGainers_18 : decode cX0_countGainers 18 = .ok (.ifCond .le 6, 3) := by decide +kernel
theorem dX0_countGainers_24 : decode cX0_countGainers 24 = .ok (.iinc 3 1, 3) := by decide +kernel
theorem dX0_countGainers_27 : decode cX0_countGainers 27 = .ok (.goto (-23), 3) := by decide +kernel
theorem dX0_countGainers_21 : decode cX0_countGainers 21 = .ok (.iinc 2 1, 3) := by decide +kernel
set_option maxHeartbeats 4000000 in
set_option maxRecDepth 100000 in
theorem b_X0_countGainers {X : VC} {μ : Mem} (y : Nat) (hy : y < 2) (hW : WF μ) (hB : PB μ y) (K : vK X cX0_countGainers 4 RX0 wsX0_countGainers ({ frames := 4, cells := 0, slots := 0, locals := 98 } : Room)) (hret : ∀ (z : Int) (ν : Mem), (fun (z : Int) (ν : Mem) => z = cgF μ y (pcn μ) ∧ ν = μ) z ν → ∀ n pc k1 k2 lv, k1 ≤ 0 → k2 ≤ 0 → decode cX0_countGainers pc = .ok (.ireturn, 1) → vW X n pc k1 k2 lv [.int (iZ z)] ν) : vW X 4 0 0 0 [(0, .ref (vAd X 1)), (1, .ref (vAd X (2 + y)))] [] μ := by
  have hpc := hW.pc6
  refine v_iconst K dX0_countGainers_0 ?_
  refine v_istore_n [(2, .int (iZ 0)), (0, .ref (vAd X 1)), (1, .ref (vAd X (2 + y)))] K dX0_countGainers_1 (by decide) rfl ?_
  refine v_iconst K dX0_countGainers_2 ?_
  refine v_istore_n [(3, .int (iZ 0)), (2, .int (iZ 0)), (0, .ref (vAd X 1)), (1, .ref (vAd X (2 + y)))] K dX0_countGainers_3 (by decide) rfl ?_
  have L4 : ∀ (fuel : Nat) (k : Nat) (hm : 7 - k < fuel) (hk : k ≤ pcn μ), vW X 4 4 0 0 [(0, .ref (vAd X 1)), (1, .ref (vAd X (2 + y))), (2, .int (iZ (cgF μ y k))), (3, .int (iZ (k : Int)))] [] μ := by
    intro fuel
    induction fuel with
    | zero => intro k hm; exact absurd hm (Nat.not_lt_zero _)
    | succ fuel ih4 =>
      intro k hm hk
      refine v_iload_n 3 K dX0_countGainers_4 rfl ?_
      refine v_aload_n 0 K dX0_countGainers_5 rfl ?_
      refine v_get (c := 1) (k := 3) (C := RX0) (T := TX0) (N := 4) (v := .int (iZ (μ 1 3))) K isO_Bd rfl (fun _ h => (List.mem_cons_of_mem _ (List.mem_append_left _ (List.mem_append_left _ (List.mem_append_left _ (List.mem_append_left _ (List.mem_append_right _ h))))))) (by decide) (List.mem_cons_of_mem _ (List.mem_append_left _ (List.mem_append_left _ (List.mem_append_left _ (List.mem_append_left _ (List.mem_append_left _ (List.mem_append_left _ (List.mem_of_getElem? (i := 0) rfl)))))))) rfl dX0_countGainers_6 rfl ?_
      refine v_icmp_ge 30 K dX0_countGainers_9 (by decide) (by omega) (by omega) (fun c9 => ?_) (fun c9 => ?_)
      · refine v_iload_n 2 K dX0_countGainers_30 rfl ?_
        exact hret _ _ ⟨(by rw [show pcn μ = k by omega]), rfl⟩ _ _ _ _ _ (Nat.le_of_ble_eq_true rfl) (Nat.le_of_ble_eq_true rfl) dX0_countGainers_31
      · have hg := gn_rng hW (y := y) (p := k) (by omega)
        refine v_aload_n 0 K dX0_countGainers_12 rfl ?_
        refine v_aload_n 1 K dX0_countGainers_13 rfl ?_
        refine v_iload_n 3 K dX0_countGainers_14 rfl ?_
        refine v_callVir (c := 1) (As := [.ref (vAd X (2 + y)), .int (iZ (k : Int))]) (rest := []) K isO_Bd rfl 2 (c_X0_gainOf X.1.2.1 K.2.2.2.2.2.2 _ _ _ μ y k hy (by omega) hW hB) gX0_countGainers_X0_gainOf rfl rfl rfl (by decide +kernel) ⟨(Nat.le_of_ble_eq_true rfl), (Nat.le_of_ble_eq_true rfl)⟩ rfl rfl (Nat.le_of_ble_eq_true rfl) dX0_countGainers_15 ⟨(Nat.le_of_ble_eq_true rfl), (Nat.le_of_ble_eq_true rfl)⟩ ?_
        refine v_if_le 24 K dX0_countGainers_18 (by decide) (by omega) (fun c18 => ?_) (fun c18 => ?_)
        · refine v_iinc 3 [(3, .int (iZ ((k : Int) + 1))), (0, .ref (vAd X 1)), (1, .ref (vAd X (2 + y))), (2, .int (iZ (cgF μ y k)))] K dX0_countGainers_24 rfl (by decide) rfl ?_
          refine v_goto 4 K dX0_countGainers_27 (by decide) ?_
          refine v_sub [1, 2, 3, 0] rfl ?_
          refine v_eq (lv1 := [(0, .ref (vAd X 1)), (1, .ref (vAd X (2 + y))), (2, .int (iZ (cgF μ y (k + 1)))), (3, .int (iZ (((k + 1) : Nat) : Int)))]) (st1 := []) (v_c0 (v_c0 (v_cI (by first | rw [cgF_y (by omega)] | rw [cgF_n (by omega)]) (v_cI (by first | rfl | omega) rfl)))) rfl ?_
          exact ih4 (k + 1) (by omega) (by omega)
        · refine v_iinc 2 [(2, .int (iZ ((cgF μ y k) + 1))), (0, .ref (vAd X 1)), (1, .ref (vAd X (2 + y))), (3, .int (iZ (k : Int)))] K dX0_countGainers_21 rfl (by decide) rfl ?_
          refine v_iinc 3 [(3, .int (iZ ((k : Int) + 1))), (2, .int (iZ ((cgF μ y k) + 1))), (0, .ref (vAd X 1)), (1, .ref (vAd X (2 + y)))] K dX0_countGainers_24 rfl (by decide) rfl ?_
          refine v_goto 4 K dX0_countGainers_27 (by decide) ?_
          refine v_sub [2, 3, 1, 0] rfl ?_
          refine v_eq (lv1 := [(0, .ref (vAd X 1)), (1, .ref (vAd X (2 + y))), (2, .int (iZ (cgF μ y (k + 1)))), (3, .int (iZ (((k + 1) : Nat) : Int)))]) (st1 := []) (v_c0 (v_c0 (v_cI (by first | rw [cgF_y (by omega)] | rw [cgF_n (by omega)]) (v_cI (by first | rfl | omega) rfl)))) rfl ?_
          exact ih4 (k + 1) (by omega) (by omega)
  refine v_sub [2, 3, 1, 0] rfl ?_
  refine v_eq (lv1 := [(0, .ref (vAd X 1)), (1, .ref (vAd X (2 + y))), (2, .int (iZ (cgF μ y 0))), (3, .int (iZ ((0 : Nat) : Int)))]) (st1 := []) (v_c0 (v_c0 (v_cI (by first | rfl | omega) (v_cI (by first | rfl | omega) rfl)))) rfl ?_
  exact L4 (7 - 0 + 1) 0 (by omega) (by omega)
theorem c_X0_countGainers (l : Launch) (hl : l.stackTraces = false) (D : va_G) (cy : Nat → ClassId) (ad : Nat → Nat) (μ : Mem) (y : Nat) (hy : y < 2) (hW : WF μ) (hB : PB μ y) : cI l yX0_countGainers wsX0_countGainers ({ frames := 4, cells := 0, slots := 0, locals := 98 } : Room) D cy ad μ [.ref (ad 1), .ref (ad (2 + y))] (fun (z : Int) (ν : Mem) => z = cgF μ y (pcn μ) ∧ ν = μ) :=
  m_int (av := (fun ad => [.ref (ad 1), .ref (ad (2 + y))])) hl (by decide) rfl rfl (Nat.le_of_ble_eq_true rfl) (fun _ _ _ => rfl) (fun X K hret => b_X0_countGainers y hy hW hB K hret)
theorem dX0_gainerAt_0 : decode cX0_gainerAt 0 = .ok (.iconst 0, 1) := by decide +kernel
theorem dX0_gainerAt_1 : decode cX0_gainerAt 1 = .ok (.istore_n 3, 1) := by decide +kernel
theorem dX0_gainerAt_2 : decode cX0_gainerAt 2 = .ok (.iconst 0, 1) := by decide +kernel
theorem dX0_gainerAt_3 : decode cX0_gainerAt 3 = .ok (.istore 4, 2) := by decide +kernel
theorem dX0_gainerAt_5 : decode cX0_gainerAt 5 = .ok (.iload 4, 2) := by decide +kernel
theorem dX0_gainerAt_7 : decode cX0_gainerAt 7 = .ok (.aload_n 0, 1) := by decide +kernel
theorem dX0_gainerAt_8 : decode cX0_gainerAt 8 = .ok (.getfield 42, 3) := by decide +kernel
theorem dX0_gainerAt_11 : decode cX0_gainerAt 11 = .ok (.if_icmp .ge 30, 3) := by decide +kernel
theorem dX0_gainerAt_41 : decode cX0_gainerAt 41 = .ok (.iconst (-1), 1) := by decide +kernel
theorem dX0_gainerAt_42 : decode cX0_gainerAt 42 = .ok (.ireturn, 1) := by decide +kernel
theorem dX0_gainerAt_14 : decode cX0_gainerAt 14 = .ok (.aload_n 0, 1) := by decide +kernel
theorem dX0_gainerAt_15 : decode cX0_gainerAt 15 = .ok (.aload_n 1, 1) := by decide +kernel
theorem dX0_gainerAt_16 : decode cX0_gainerAt 16 = .ok (.iload 4, 2) := by decide +kernel
theorem dX0_gainerAt_18 : decode cX0_gainerAt 18 = .ok (.invokevirtual 119, 3) := by decide +kernel
set_option maxRecDepth 20000 in
theorem ggX0_gainerAt_X0_gainOf : GoodIn wsX0_gainerAt wsX0_gainOf := goodIn_ca (goodIn_r _ [6, 7, 8, 9, 5, 10, 11, 12, 13, 14, 15, 16, 17, 18, 19, 20, 21, 22, 23, 24, 25, 26, 27, 28, 29, 30, 31, 32, 33, 34, 35, 36, 37, 38, 39, 40, 41, 42, 43, 44, 45, 46, 47, 48, 49, 50, 51, 52, 53, 54, 55, 56, 57, 58, 59, 60, 61, 62, 63, 64, 65, 66, 67, 68, 69, 70, 71, 72, 73] (by decide +kernel) (by decide +kernel)) (goodIn_sub (fun _ h => List.mem_cons_of_mem _ (List.mem_append_right _ h)) (by decide +kernel))
set_option maxRecDepth 20000 in
theorem gX0_gainerAt_X0_gainOf : GoodIn wsX0_gainerAt (wsV RX0 119 RX0 yX0_gainOf wsX0_gainOf) := goodIn_app (goodIn_of _ (by decide +kernel)) ggX0_gainerAt_X0_gainOf
theorem dX0_gainerAt_21 : decode cX0_gainerAt 21 = .ok (.ifCond .le 14, 3) := by decide +kernel
theorem dX0_gainerAt_35 : decode cX0_gainerAt 35 = .ok (.iinc 4 1, 3) := by decide +kernel
theorem dX0_gainerAt_38 : decode cX0_gainerAt 38 = .ok (.goto (-33), 3) := by decide +kernel
theorem dX0_gainerAt_24 : decode cX0_gainerAt 24 = .ok (.iload_n 3, 1) := by decide +kernel
theorem dX0_gainerAt_25 : decode cX0_gainerAt 25 = .ok (.iload_n 2, 1) := by decide +kernel
theorem dX0_gainerAt_26 : decode cX0_gainerAt 26 = .ok (.if_icmp .ne 6, 3) := by decide +kernel
theorem dX0_gainerAt_32 : decode cX0_gainerAt 32 = .ok (.iinc 3 1, 3) := by decide +kernel
theorem dX0_gainerAt_29 : decode cX0_gainerAt 29 = .ok (.iload 4, 2) := by decide +kernel
theorem dX0_gainerAt_31 : decode cX0_gainerAt 31 = .ok (.ireturn, 1) := by decide +kernel
set_option maxHeartbeats 4000000 in
set_option maxRecDepth 100000 in
theorem b_X0_gainerAt {X : VC} {μ : Mem} (y : Nat) (n : Int) (hy : y < 2) (hW : WF μ) (hB : PB μ y) (hn : 0 ≤ n ∧ n ≤ 100) (K : vK X cX0_gainerAt 5 RX0 wsX0_gainerAt ({ frames := 4, cells := 0, slots := 0, locals := 98 } : Room)) (hret : ∀ (z : Int) (ν : Mem), (fun (z : Int) (ν : Mem) => ν = μ ∧ (GA μ y n z)) z ν → ∀ n pc k1 k2 lv, k1 ≤ 0 → k2 ≤ 0 → decode cX0_gainerAt pc = .ok (.ireturn, 1) → vW X n pc k1 k2 lv [.int (iZ z)] ν) : vW X 5 0 0 0 [(0, .ref (vAd X 1)), (1, .ref (vAd X (2 + y))), (2, .int (iZ n))] [] μ := by
  have hpc := hW.pc6
  refine v_iconst K dX0_gainerAt_0 ?_
  refine v_istore_n [(3, .int (iZ 0)), (0, .ref (vAd X 1)), (1, .ref (vAd X (2 + y))), (2, .int (iZ n))] K dX0_gainerAt_1 (by decide) rfl ?_
  refine v_iconst K dX0_gainerAt_2 ?_
  refine v_istore [(4, .int (iZ 0)), (3, .int (iZ 0)), (0, .ref (vAd X 1)), (1, .ref (vAd X (2 + y))), (2, .int (iZ n))] K dX0_gainerAt_3 (by decide) rfl ?_
  have L5 : ∀ (fuel : Nat) (k : Nat) (hm : 7 - k < fuel) (hk : k ≤ pcn μ) (hj : ∀ j : Nat, j < k → 0 < gn μ y j → cgF μ y j ≠ n), vW X 5 5 0 0 [(0, .ref (vAd X 1)), (1, .ref (vAd X (2 + y))), (2, .int (iZ n)), (3, .int (iZ (cgF μ y k))), (4, .int (iZ (k : Int)))] [] μ := by
    intro fuel
    induction fuel with
    | zero => intro k hm; exact absurd hm (Nat.not_lt_zero _)
    | succ fuel ih5 =>
      intro k hm hk hj
      refine v_iload 4 K dX0_gainerAt_5 rfl ?_
      refine v_aload_n 0 K dX0_gainerAt_7 rfl ?_
      refine v_get (c := 1) (k := 3) (C := RX0) (T := TX0) (N := 4) (v := .int (iZ (μ 1 3))) K isO_Bd rfl (fun _ h => (List.mem_cons_of_mem _ (List.mem_append_left _ (List.mem_append_left _ (List.mem_append_left _ (List.mem_append_left _ (List.mem_append_right _ h))))))) (by decide) (List.mem_cons_of_mem _ (List.mem_append_left _ (List.mem_append_left _ (List.mem_append_left _ (List.mem_append_left _ (List.mem_append_left _ (List.mem_append_left _ (List.mem_of_getElem? (i := 0) rfl)))))))) rfl dX0_gainerAt_8 rfl ?_
      refine v_icmp_ge 41 K dX0_gainerAt_11 (by decide) (by omega) (by omega) (fun c11 => ?_) (fun c11 => ?_)
      · refine v_iconst K dX0_gainerAt_41 ?_
        exact hret _ _ ⟨rfl, Or.inl ⟨rfl, fun j hj1 => hj j (by omega)⟩⟩ _ _ _ _ _ (Nat.le_of_ble_eq_true rfl) (Nat.le_of_ble_eq_true rfl) dX0_gainerAt_42
      · have hg := gn_rng hW (y := y) (p := k) (by omega)
        have hc := cgF_rng μ y k
        refine v_aload_n 0 K dX0_gainerAt_14 rfl ?_
        refine v_aload_n 1 K dX0_gainerAt_15 rfl ?_
        refine v_iload 4 K dX0_gainerAt_16 rfl ?_
        refine v_callVir (c := 1) (As := [.ref (vAd X (2 + y)), .int (iZ (k : Int))]) (rest := []) K isO_Bd rfl 2 (c_X0_gainOf X.1.2.1 K.2.2.2.2.2.2 _ _ _ μ y k hy (by omega) hW hB) gX0_gainerAt_X0_gainOf rfl rfl rfl (by decide +kernel) ⟨(Nat.le_of_ble_eq_true rfl), (Nat.le_of_ble_eq_true rfl)⟩ rfl rfl (Nat.le_of_ble_eq_true rfl) dX0_gainerAt_18 ⟨(Nat.le_of_ble_eq_true rfl), (Nat.le_of_ble_eq_true rfl)⟩ ?_
        refine v_if_le 35 K dX0_gainerAt_21 (by decide) (by omega) (fun c21 => ?_) (fun c21 => ?_)
        · refine v_iinc 4 [(4, .int (iZ ((k : Int) + 1))), (0, .ref (vAd X 1)), (1, .ref (vAd X (2 + y))), (2, .int (iZ n)), (3, .int (iZ (cgF μ y k)))] K dX0_gainerAt_35 rfl (by decide) rfl ?_
          refine v_goto 5 K dX0_gainerAt_38 (by decide) ?_
          refine v_sub [1, 2, 3, 4, 0] rfl ?_
          refine v_eq (lv1 := [(0, .ref (vAd X 1)), (1, .ref (vAd X (2 + y))), (2, .int (iZ n)), (3, .int (iZ (cgF μ y (k + 1)))), (4, .int (iZ (((k + 1) : Nat) : Int)))]) (st1 := []) (v_c0 (v_c0 (v_c0 (v_cI (by first | rw [cgF_y (by omega)] | rw [cgF_n (by omega)]) (v_cI (by first | rfl | omega) rfl))))) rfl ?_
          have hj0 := hj
          exact ih5 (k + 1) (by omega) (by omega) (fun j hj h => by rcases (show j < k ∨ j = k by omega) with q | q; exact hj0 j q h; subst q; omega)
        · refine v_iload_n 3 K dX0_gainerAt_24 rfl ?_
          refine v_iload_n 2 K dX0_gainerAt_25 rfl ?_
          refine v_icmp_ne 32 K dX0_gainerAt_26 (by decide) (by omega) (by omega) (fun c26 => ?_) (fun c26 => ?_)
          · refine v_iinc 3 [(3, .int (iZ ((cgF μ y k) + 1))), (0, .ref (vAd X 1)), (1, .ref (vAd X (2 + y))), (2, .int (iZ n)), (4, .int (iZ (k : Int)))] K dX0_gainerAt_32 rfl (by decide) rfl ?_
            refine v_iinc 4 [(4, .int (iZ ((k : Int) + 1))), (3, .int (iZ ((cgF μ y k) + 1))), (0, .ref (vAd X 1)), (1, .ref (vAd X (2 + y))), (2, .int (iZ n))] K dX0_gainerAt_35 rfl (by decide) rfl ?_
            refine v_goto 5 K dX0_gainerAt_38 (by decide) ?_
            refine v_sub [2, 3, 4, 1, 0] rfl ?_
            refine v_eq (lv1 := [(0, .ref (vAd X 1)), (1, .ref (vAd X (2 + y))), (2, .int (iZ n)), (3, .int (iZ (cgF μ y (k + 1)))), (4, .int (iZ (((k + 1) : Nat) : Int)))]) (st1 := []) (v_c0 (v_c0 (v_c0 (v_cI (by first | rw [cgF_y (by omega)] | rw [cgF_n (by omega)]) (v_cI (by first | rfl | omega) rfl))))) rfl ?_
            have hj0 := hj
            exact ih5 (k + 1) (by omega) (by omega) (fun j hj h => by rcases (show j < k ∨ j = k by omega) with q | q; exact hj0 j q h; subst q; omega)
          · refine v_iload 4 K dX0_gainerAt_29 rfl ?_
            exact hret _ _ ⟨rfl, Or.inr ⟨k, (by omega), (by omega), (by omega), rfl⟩⟩ _ _ _ _ _ (Nat.le_of_ble_eq_true rfl) (Nat.le_of_ble_eq_true rfl) dX0_gainerAt_31
  refine v_sub [2, 3, 4, 1, 0] rfl ?_
  refine v_eq (lv1 := [(0, .ref (vAd X 1)), (1, .ref (vAd X (2 + y))), (2, .int (iZ n)), (3, .int (iZ (cgF μ y 0))), (4, .int (iZ ((0 : Nat) : Int)))]) (st1 := []) (v_c0 (v_c0 (v_c0 (v_cI (by first | rfl | omega) (v_cI (by first | rfl | omega) rfl))))) rfl ?_
  exact L5 (7 - 0 + 1) 0 (by omega) (by omega) (fun j hj => by omega)
theorem c_X0_gainerAt (l : Launch) (hl : l.stackTraces = false) (D : va_G) (cy : Nat → ClassId) (ad : Nat → Nat) (μ : Mem) (y : Nat) (n : Int) (hy : y < 2) (hW : WF μ) (hB : PB μ y) (hn : 0 ≤ n ∧ n ≤ 100) : cI l yX0_gainerAt wsX0_gainerAt ({ frames := 4, cells := 0, slots := 0, locals := 98 } : Room) D cy ad μ [.ref (ad 1), .ref (ad (2 + y)), .int (iZ n)] (fun (z : Int) (ν : Mem) => ν = μ ∧ (GA μ y n z)) :=
  m_int (av := (fun ad => [.ref (ad 1), .ref (ad (2 + y)), .int (iZ n)])) hl (by decide) rfl rfl (Nat.le_of_ble_eq_true rfl) (fun _ _ _ => rfl) (fun X K hret => b_X0_gainerAt y n hy hW hB hn K hret)
