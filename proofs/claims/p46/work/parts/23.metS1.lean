theorem dX6_anyRing_0 : decode cX6_anyRing 0 = .ok (.aload_n 0, 1) := by decide +kernel
theorem dX6_anyRing_1 : decode cX6_anyRing 1 = .ok (.invokevirtual 119, 3) := by decide +kernel
set_option maxRecDepth 20000 in
theorem ggX6_anyRing_X6_forget : GoodIn wsX6_anyRing wsX6_forget := goodIn_ca (goodIn_r _ [7, 1, 2, 43, 44, 45, 46, 47, 48, 49, 50, 51, 52, 53, 54, 55] (by decide +kernel) (by decide +kernel)) (goodIn_sub (fun _ h => List.mem_cons_of_mem _ (List.mem_append_right _ h)) (by decide +kernel))
set_option maxRecDepth 20000 in
theorem gX6_anyRing_X6_forget : GoodIn wsX6_anyRing (wsV RX6 119 RX6 yX6_forget wsX6_forget) := goodIn_app (goodIn_of _ (by decide +kernel)) ggX6_anyRing_X6_forget
theorem dX6_anyRing_4 : decode cX6_anyRing 4 = .ok (.iconst 0, 1) := by decide +kernel
theorem dX6_anyRing_5 : decode cX6_anyRing 5 = .ok (.istore_n 1, 1) := by decide +kernel
theorem dX6_anyRing_6 : decode cX6_anyRing 6 = .ok (.iload_n 1, 1) := by decide +kernel
theorem dX6_anyRing_7 : decode cX6_anyRing 7 = .ok (.aload_n 0, 1) := by decide +kernel
theorem dX6_anyRing_8 : decode cX6_anyRing 8 = .ok (.getfield 98, 3) := by decide +kernel
theorem dX6_anyRing_11 : decode cX6_anyRing 11 = .ok (.if_icmp .ge 28, 3) := by decide +kernel
theorem dX6_anyRing_39 : decode cX6_anyRing 39 = .ok (.iconst 0, 1) := by decide +kernel
theorem dX6_anyRing_40 : decode cX6_anyRing 40 = .ok (.ireturn, 1) := by decide +kernel
theorem dX6_anyRing_14 : decode cX6_anyRing 14 = .ok (.aload_n 0, 1) := by decide +kernel
theorem dX6_anyRing_15 : decode cX6_anyRing 15 = .ok (.getfield 30, 3) := by decide +kernel
theorem dX6_anyRing_18 : decode cX6_anyRing 18 = .ok (.iload_n 1, 1) := by decide +kernel
theorem dX6_anyRing_19 : decode cX6_anyRing 19 = .ok (.iaload, 1) := by decide +kernel
theorem dX6_anyRing_20 : decode cX6_anyRing 20 = .ok (.ifCond .ne 13, 3) := by decide +kernel
theorem dX6_anyRing_33 : decode cX6_anyRing 33 = .ok (.iinc 1 1, 3) := by decide +kernel
theorem dX6_anyRing_36 : decode cX6_anyRing 36 = .ok (.goto (-30), 3) := by decide +kernel
theorem dX6_anyRing_23 : decode cX6_anyRing 23 = .ok (.aload_n 0, 1) := by decide +kernel
theorem dX6_anyRing_24 : decode cX6_anyRing 24 = .ok (.iload_n 1, 1) := by decide +kernel
theorem dX6_anyRing_25 : decode cX6_anyRing 25 = .ok (.invokevirtual 122, 3) := by decide +kernel
set_option maxRecDepth 20000 in
theorem ggX6_anyRing_X6_meetsRing : GoodIn wsX6_anyRing wsX6_meetsRing := goodIn_ca (goodIn_r _ [11, 12, 13, 14, 2, 15, 16, 17, 18, 6, 19, 20, 21, 22, 23, 24, 25, 26, 27, 28, 29, 30, 31, 32, 33, 34, 35, 36, 37, 38, 39, 40, 41, 42, 43, 44, 45, 46, 47, 48, 49, 50, 51, 52, 53, 54, 55] (by decide +kernel) (by decide +kernel)) (goodIn_sub (fun _ h => List.mem_cons_of_mem _ (List.mem_append_right _ h)) (by decide +kernel))
set_option maxRecDepth 20000 in
theorem gX6_anyRing_X6_meetsRing : GoodIn wsX6_anyRing (wsV RX6 122 RX6 yX6_meetsRing wsX6_meetsRing) := goodIn_app (goodIn_of _ (by decide +kernel)) ggX6_anyRing_X6_meetsRing
theorem dX6_anyRing_28 : decode cX6_anyRing 28 = .ok (.ifCond .eq 5, 3) := by decide +kernel
set_option maxHeartbeats 4000000 in
set_option maxRecDepth 100000 in
theorem b_X6_anyRing {X : VC} {μ : Mem} (n : Nat) (rk : Nat → Int) (hG : GR μ n rk) (K : vK X cX6_anyRing 2 RX6 wsX6_anyRing ({ frames := 3, cells := 0, slots := 0, locals := 71 } : Room)) (hret : ∀ (z : Int) (ν : Mem), (fun (z : Int) (ν : Mem) => z = 0) z ν → ∀ n pc k1 k2 lv, k1 ≤ 0 → k2 ≤ 0 → decode cX6_anyRing pc = .ok (.ireturn, 1) → vW X n pc k1 k2 lv [.int (iZ z)] ν) : vW X 2 0 0 0 [(0, .ref (vAd X 4))] [] μ := by
  have hn := hG.1
  have hf := hG.2.1
  refine v_aload_n 0 K dX6_anyRing_0 rfl ?_
  refine v_callVv (c := 4) (As := []) (rest := []) K isO_Sv rfl 0 (c_X6_forget X.1.2.1 K.2.2.2.2.2.2 _ _ _ μ n (by omega) (by omega)) gX6_anyRing_X6_forget rfl rfl rfl (by decide +kernel) ⟨(Nat.le_of_ble_eq_true rfl), (Nat.le_of_ble_eq_true rfl)⟩ rfl rfl (Nat.le_of_ble_eq_true rfl) dX6_anyRing_1 ⟨(Nat.le_of_ble_eq_true rfl), (Nat.le_of_ble_eq_true rfl)⟩ (fun μ1 q1 => ?_)
  refine v_iconst K dX6_anyRing_4 ?_
  refine v_istore_n [(1, .int (iZ 0)), (0, .ref (vAd X 4))] K dX6_anyRing_5 (by decide) rfl ?_
  have L6 : ∀ (fuel : Nat) (k : Nat) (ξ : Mem) (hm : 1001 - k < fuel) (hk : k ≤ n) (hA : AD μ ξ) (hM : MK ξ n), vW X 2 6 0 0 [(0, .ref (vAd X 4)), (1, .int (iZ (k : Int)))] [] ξ := by
    intro fuel
    induction fuel with
    | zero => intro k ξ hm; exact absurd hm (Nat.not_lt_zero _)
    | succ fuel ih6 =>
      intro k ξ hm hk hA hM
      refine v_iload_n 1 K dX6_anyRing_6 rfl ?_
      have h4 : ξ 4 12 = (n : Int) := by rw [hA 4 (by omega)]; exact hf
      refine v_aload_n 0 K dX6_anyRing_7 rfl ?_
      refine v_get (c := 4) (k := 12) (C := RX6) (T := TX6) (N := 13) (v := .int (iZ (ξ 4 12))) K isO_Sv rfl (fun _ h => (List.mem_cons_of_mem _ (List.mem_append_left _ (List.mem_append_right _ h)))) (by decide) (List.mem_cons_of_mem _ (List.mem_append_left _ (List.mem_append_left _ (List.mem_append_left _ (List.mem_of_getElem? (i := 0) rfl))))) rfl dX6_anyRing_8 rfl ?_
      refine v_top (b := (n : Int)) (by rw [h4]) ?_
      refine v_icmp_ge 39 K dX6_anyRing_11 (by decide) (by omega) (by omega) (fun c11 => ?_) (fun c11 => ?_)
      · refine v_iconst K dX6_anyRing_39 ?_
        exact hret _ _ rfl _ _ _ _ _ (Nat.le_of_ble_eq_true rfl) (Nat.le_of_ble_eq_true rfl) dX6_anyRing_40
      · refine v_aload_n 0 K dX6_anyRing_14 rfl ?_
        have hmk := hM k (by omega)
        have hGx := hA.GR9 hG
        refine v_get (c := 4) (k := 6) (C := RX6) (T := TX6) (N := 13) (v := .ref (vAd X 15)) K isO_Sv rfl (fun _ h => (List.mem_cons_of_mem _ (List.mem_append_left _ (List.mem_append_right _ h)))) (by decide) (List.mem_cons_of_mem _ (List.mem_append_left _ (List.mem_append_left _ (List.mem_append_left _ (List.mem_of_getElem? (i := 1) rfl))))) rfl dX6_anyRing_15 rfl ?_
        refine v_iload_n 1 K dX6_anyRing_18 rfl ?_
        refine v_iald (c := 15) k K isI_15 rfl (by omega) dX6_anyRing_19 ?_
        refine v_if_ne 33 K dX6_anyRing_20 (by decide) (by omega) (fun c20 => ?_) (fun c20 => ?_)
        · have hA9 : AD μ ξ := hA
          have hM9 : MK ξ n := hM
          refine v_iinc 1 [(1, .int (iZ ((k : Int) + 1))), (0, .ref (vAd X 4))] K dX6_anyRing_33 rfl (by decide) rfl ?_
          refine v_goto 6 K dX6_anyRing_36 (by decide) ?_
          refine v_sub [1, 0] rfl ?_
          refine v_eq (lv1 := [(0, .ref (vAd X 4)), (1, .int (iZ (((k + 1) : Nat) : Int)))]) (st1 := []) (v_c0 (v_cI (by first | rfl | omega) rfl)) rfl ?_
          exact ih6 (k + 1) ξ (by omega) (by omega) hA9 hM9
        · refine v_aload_n 0 K dX6_anyRing_23 rfl ?_
          refine v_iload_n 1 K dX6_anyRing_24 rfl ?_
          refine v_callVi (c := 4) (As := [.int (iZ (k : Int))]) (rest := []) K isO_Sv rfl 1 (c_X6_meetsRing X.1.2.1 K.2.2.2.2.2.2 _ _ _ ξ n rk k hGx hM (by omega) (by omega)) gX6_anyRing_X6_meetsRing rfl rfl rfl (by decide +kernel) ⟨(Nat.le_of_ble_eq_true rfl), (Nat.le_of_ble_eq_true rfl)⟩ rfl rfl (Nat.le_of_ble_eq_true rfl) dX6_anyRing_25 ⟨(Nat.le_of_ble_eq_true rfl), (Nat.le_of_ble_eq_true rfl)⟩ (fun zr ξ2 q25 => ?_)
          have hzr := q25.1
          refine v_if_eq 33 K dX6_anyRing_28 (by decide) (by omega) (fun c28 => ?_) (fun c28 => (by exfalso; omega))
          have hA9 : AD μ ξ2 := fun c hc => by rw [q25.2.1 c hc]; exact hA c hc
          have hM9 : MK ξ2 n := q25.2.2
          refine v_iinc 1 [(1, .int (iZ ((k : Int) + 1))), (0, .ref (vAd X 4))] K dX6_anyRing_33 rfl (by decide) rfl ?_
          refine v_goto 6 K dX6_anyRing_36 (by decide) ?_
          refine v_sub [1, 0] rfl ?_
          refine v_eq (lv1 := [(0, .ref (vAd X 4)), (1, .int (iZ (((k + 1) : Nat) : Int)))]) (st1 := []) (v_c0 (v_cI (by first | rfl | omega) rfl)) rfl ?_
          exact ih6 (k + 1) ξ2 (by omega) (by omega) hA9 hM9
  refine v_sub [1, 0] rfl ?_
  refine v_eq (lv1 := [(0, .ref (vAd X 4)), (1, .int (iZ ((0 : Nat) : Int)))]) (st1 := []) (v_c0 (v_cI (by first | rfl | omega) rfl)) rfl ?_
  exact L6 (1001 - 0 + 1) 0 μ1 (by omega) (by omega) (fun c hc => q1.1 c (by omega)) (fun j hj => Or.inl (q1.2 j hj))
theorem c_X6_anyRing (l : Launch) (hl : l.stackTraces = false) (D : va_G) (cy : Nat → ClassId) (ad : Nat → Nat) (μ : Mem) (n : Nat) (rk : Nat → Int) (hG : GR μ n rk) : cI l yX6_anyRing wsX6_anyRing ({ frames := 3, cells := 0, slots := 0, locals := 71 } : Room) D cy ad μ [.ref (ad 4)] (fun (z : Int) (ν : Mem) => z = 0) :=
  m_int (av := (fun ad => [.ref (ad 4)])) hl (by decide) rfl rfl (Nat.le_of_ble_eq_true rfl) (fun z ν q => (nar_z (by omega)).1) (fun X K hret => b_X6_anyRing n rk hG K hret)
theorem dX7_isSound_0 : decode cX7_isSound 0 = .ok (.aload_n 0, 1) := by decide +kernel
theorem dX7_isSound_1 : decode cX7_isSound 1 = .ok (.getfield 10, 3) := by decide +kernel
theorem dX7_isSound_4 : decode cX7_isSound 4 = .ok (.aload_n 0, 1) := by decide +kernel
theorem dX7_isSound_5 : decode cX7_isSound 5 = .ok (.getfield 19, 3) := by decide +kernel
theorem dX7_isSound_8 : decode cX7_isSound 8 = .ok (.invokevirtual 355, 3) := by decide +kernel
set_option maxRecDepth 20000 in
theorem ggX7_isSound_X0_isBalanced : GoodIn wsX7_isSound wsX0_isBalanced := goodIn_ca (goodIn_r _ [9, 10, 11, 12, 13, 14, 15, 16, 17, 18, 19, 20, 21, 22, 23, 24, 25, 26, 27, 28, 29, 178, 179, 180, 181, 182, 183, 184, 185, 186, 187, 188, 189, 190] (by decide +kernel) (by decide +kernel)) (goodIn_sub (fun _ h => List.mem_cons_of_mem _ (List.mem_append_right _ h)) (by decide +kernel))
set_option maxRecDepth 20000 in
theorem gX7_isSound_X0_isBalanced : GoodIn wsX7_isSound (wsV RX7 355 RX0 yX0_isBalanced wsX0_isBalanced) := goodIn_app (goodIn_of _ (by decide +kernel)) ggX7_isSound_X0_isBalanced
theorem dX7_isSound_11 : decode cX7_isSound 11 = .ok (.ifCond .ne 5, 3) := by decide +kernel
theorem dX7_isSound_16 : decode cX7_isSound 16 = .ok (.aload_n 0, 1) := by decide +kernel
theorem dX7_isSound_17 : decode cX7_isSound 17 = .ok (.getfield 10, 3) := by decide +kernel
theorem dX7_isSound_20 : decode cX7_isSound 20 = .ok (.aload_n 0, 1) := by decide +kernel
theorem dX7_isSound_21 : decode cX7_isSound 21 = .ok (.getfield 19, 3) := by decide +kernel
theorem dX7_isSound_24 : decode cX7_isSound 24 = .ok (.invokevirtual 248, 3) := by decide +kernel
set_option maxRecDepth 20000 in
theorem ggX7_isSound_X0_isEven : GoodIn wsX7_isSound wsX0_isEven := goodIn_ca (goodIn_r _ [33, 12, 15, 13, 14, 34, 178, 179, 180, 181, 182, 183, 184, 185, 186, 187, 188, 189, 190] (by decide +kernel) (by decide +kernel)) (goodIn_sub (fun _ h => List.mem_cons_of_mem _ (List.mem_append_right _ h)) (by decide +kernel))
set_option maxRecDepth 20000 in
theorem gX7_isSound_X0_isEven : GoodIn wsX7_isSound (wsV RX7 248 RX0 yX0_isEven wsX0_isEven) := goodIn_app (goodIn_of _ (by decide +kernel)) ggX7_isSound_X0_isEven
theorem dX7_isSound_27 : decode cX7_isSound 27 = .ok (.ifCond .ne 5, 3) := by decide +kernel
theorem dX7_isSound_32 : decode cX7_isSound 32 = .ok (.aload_n 0, 1) := by decide +kernel
theorem dX7_isSound_33 : decode cX7_isSound 33 = .ok (.getfield 29, 3) := by decide +kernel
theorem dX7_isSound_36 : decode cX7_isSound 36 = .ok (.aload_n 0, 1) := by decide +kernel
theorem dX7_isSound_37 : decode cX7_isSound 37 = .ok (.getfield 10, 3) := by decide +kernel
theorem dX7_isSound_40 : decode cX7_isSound 40 = .ok (.aload_n 0, 1) := by decide +kernel
theorem dX7_isSound_41 : decode cX7_isSound 41 = .ok (.getfield 19, 3) := by decide +kernel
theorem dX7_isSound_44 : decode cX7_isSound 44 = .ok (.invokevirtual 257, 3) := by decide +kernel
set_option maxRecDepth 20000 in
theorem ggX7_isSound_X6_number : GoodIn wsX7_isSound wsX6_number := goodIn_ca (goodIn_r _ [39, 40, 41, 42, 43, 44, 45, 46, 47, 48, 49, 50, 51, 8, 52, 13, 53, 15, 54, 55, 56, 57, 58, 16, 17, 18, 19, 20, 21, 22, 59, 60, 61, 38, 62, 63, 64, 165, 166, 167, 168, 169, 170, 171, 172, 173, 174, 175, 176, 177, 182, 183, 184, 178, 179, 180, 181, 185, 186, 187, 188, 189, 190] (by decide +kernel) (by decide +kernel)) (goodIn_sub (fun _ h => List.mem_cons_of_mem _ (List.mem_append_right _ h)) (by decide +kernel))
set_option maxRecDepth 20000 in
theorem gX7_isSound_X6_number : GoodIn wsX7_isSound (wsV RX7 257 RX6 yX6_number wsX6_number) := goodIn_app (goodIn_of _ (by decide +kernel)) ggX7_isSound_X6_number
theorem dX7_isSound_47 : decode cX7_isSound 47 = .ok (.aload_n 0, 1) := by decide +kernel
theorem dX7_isSound_48 : decode cX7_isSound 48 = .ok (.getfield 29, 3) := by decide +kernel
theorem dX7_isSound_51 : decode cX7_isSound 51 = .ok (.getfield 261, 3) := by decide +kernel
theorem dX7_isSound_54 : decode cX7_isSound 54 = .ok (.sipush 1000, 3) := by decide +kernel
theorem dX7_isSound_57 : decode cX7_isSound 57 = .ok (.if_icmp .le 5, 3) := by decide +kernel
theorem dX7_isSound_62 : decode cX7_isSound 62 = .ok (.aload_n 0, 1) := by decide +kernel
theorem dX7_isSound_63 : decode cX7_isSound 63 = .ok (.getfield 29, 3) := by decide +kernel
theorem dX7_isSound_66 : decode cX7_isSound 66 = .ok (.aload_n 0, 1) := by decide +kernel
theorem dX7_isSound_67 : decode cX7_isSound 67 = .ok (.getfield 10, 3) := by decide +kernel
theorem dX7_isSound_70 : decode cX7_isSound 70 = .ok (.invokevirtual 358, 3) := by decide +kernel
set_option maxRecDepth 20000 in
theorem ggX7_isSound_X6_fill : GoodIn wsX7_isSound wsX6_fill := goodIn_ca (goodIn_r _ [68, 42, 69, 70, 71, 72, 73, 74, 40, 75, 76, 77, 78, 38, 79, 43, 63, 48, 80, 81, 82, 83, 45, 44, 84, 85, 86, 8, 87, 13, 15, 10, 11, 14, 16, 17, 18, 19, 20, 21, 22, 88, 89, 90, 91, 92, 93, 94, 12, 95, 96, 97, 98, 99, 100, 101, 102, 103, 104, 105, 106, 107, 50, 51, 52, 53, 108, 109, 110, 111, 112, 113, 114, 115, 116, 34, 117, 55, 56, 57, 58, 165, 166, 167, 168, 169, 170, 171, 172, 173, 174, 175, 176, 177, 178, 179, 180, 181, 182, 183, 184, 185, 186, 187, 188, 189, 190, 191, 192, 193, 194, 195, 196, 197] (by decide +kernel) (by decide +kernel)) (goodIn_sub (fun _ h => List.mem_cons_of_mem _ (List.mem_append_right _ h)) (by decide +kernel))
set_option maxRecDepth 20000 in
theorem gX7_isSound_X6_fill : GoodIn wsX7_isSound (wsV RX7 358 RX6 yX6_fill wsX6_fill) := goodIn_app (goodIn_of _ (by decide +kernel)) ggX7_isSound_X6_fill
theorem dX7_isSound_73 : decode cX7_isSound 73 = .ok (.aload_n 0, 1) := by decide +kernel
theorem dX7_isSound_74 : decode cX7_isSound 74 = .ok (.getfield 29, 3) := by decide +kernel
theorem dX7_isSound_77 : decode cX7_isSound 77 = .ok (.invokevirtual 267, 3) := by decide +kernel
set_option maxRecDepth 20000 in
theorem ggX7_isSound_X6_countAtRest : GoodIn wsX7_isSound wsX6_countAtRest := goodIn_ca (goodIn_r _ [121, 73, 122, 123, 124, 38, 125, 75, 165, 166, 167, 168, 169, 170, 171, 172, 173, 174, 175, 176, 177] (by decide +kernel) (by decide +kernel)) (goodIn_sub (fun _ h => List.mem_cons_of_mem _ (List.mem_append_right _ h)) (by decide +kernel))
set_option maxRecDepth 20000 in
theorem gX7_isSound_X6_countAtRest : GoodIn wsX7_isSound (wsV RX7 267 RX6 yX6_countAtRest wsX6_countAtRest) := goodIn_app (goodIn_of _ (by decide +kernel)) ggX7_isSound_X6_countAtRest
theorem dX7_isSound_80 : decode cX7_isSound 80 = .ok (.ifCond .le 17, 3) := by decide +kernel
theorem dX7_isSound_83 : decode cX7_isSound 83 = .ok (.aload_n 0, 1) := by decide +kernel
theorem dX7_isSound_84 : decode cX7_isSound 84 = .ok (.getfield 29, 3) := by decide +kernel
theorem dX7_isSound_87 : decode cX7_isSound 87 = .ok (.invokevirtual 291, 3) := by decide +kernel
set_option maxRecDepth 20000 in
theorem ggX7_isSound_X6_anyRing : GoodIn wsX7_isSound wsX6_anyRing := goodIn_ca (goodIn_r _ [129, 73, 130, 131, 132, 133, 38, 134, 135, 136, 137, 138, 139, 140, 141, 75, 142, 143, 144, 145, 146, 147, 148, 149, 150, 151, 152, 71, 153, 88, 89, 90, 154, 155, 156, 157, 64, 45, 80, 81, 82, 83, 44, 165, 166, 167, 168, 169, 170, 171, 172, 173, 174, 175, 176, 177] (by decide +kernel) (by decide +kernel)) (goodIn_sub (fun _ h => List.mem_cons_of_mem _ (List.mem_append_right _ h)) (by decide +kernel))
set_option maxRecDepth 20000 in
theorem gX7_isSound_X6_anyRing : GoodIn wsX7_isSound (wsV RX7 291 RX6 yX6_anyRing wsX6_anyRing) := goodIn_app (goodIn_of _ (by decide +kernel)) ggX7_isSound_X6_anyRing
theorem dX7_isSound_90 : decode cX7_isSound 90 = .ok (.ifCond .ne 7, 3) := by decide +kernel
theorem dX7_isSound_93 : decode cX7_isSound 93 = .ok (.iconst 1, 1) := by decide +kernel
theorem dX7_isSound_94 : decode cX7_isSound 94 = .ok (.goto 4, 3) := by decide +kernel
theorem dX7_isSound_98 : decode cX7_isSound 98 = .ok (.ireturn, 1) := by decide +kernel
theorem dX7_isSound_30 : decode cX7_isSound 30 = .ok (.iconst 1, 1) := by decide +kernel
theorem dX7_isSound_31 : decode cX7_isSound 31 = .ok (.ireturn, 1) := by decide +kernel
set_option maxHeartbeats 4000000 in
set_option maxRecDepth 100000 in
theorem b_X7_isSound {X : VC} {μ : Mem} (hW : WF μ) (hL : PL μ 0) (hL1 : PL μ 1) (hlw : LW μ) (hwb : WB μ) (K : vK X cX7_isSound 1 RX7 wsX7_isSound ({ frames := 5, cells := 0, slots := 0, locals := 119 } : Room)) (hret : ∀ (z : Int) (ν : Mem), (fun (z : Int) (ν : Mem) => z = 1) z ν → ∀ n pc k1 k2 lv, k1 ≤ 0 → k2 ≤ 0 → decode cX7_isSound pc = .ok (.ireturn, 1) → vW X n pc k1 k2 lv [.int (iZ z)] ν) : vW X 1 0 0 0 [(0, .ref (vAd X 0))] [] μ := by
  have hB := hL.PB9 hW
  have hpc := hW.pc6
  have hbal := bal_0 hW hL hwb
  refine v_aload_n 0 K dX7_isSound_0 rfl ?_
  refine v_get (c := 0) (k := 0) (C := RX7) (T := TX7) (N := 7) (v := .ref (vAd X 1)) K isO_SJ rfl (fun _ h => (List.mem_cons_of_mem _ (List.mem_append_left _ (List.mem_append_left _ (List.mem_append_left _ (List.mem_append_left _ (List.mem_append_left _ (List.mem_append_left _ (List.mem_append_right _ h))))))))) (by decide) (List.mem_cons_of_mem _ (List.mem_append_left _ (List.mem_append_left _ (List.mem_append_left _ (List.mem_append_left _ (List.mem_append_left _ (List.mem_append_left _ (List.mem_append_left _ (List.mem_append_left _ (List.mem_of_getElem? (i := 0) rfl)))))))))) rfl dX7_isSound_1 rfl ?_
  refine v_aload_n 0 K dX7_isSound_4 rfl ?_
  refine v_get (c := 0) (k := 1) (C := RX7) (T := TX7) (N := 7) (v := .ref (vAd X (2 + 0))) K isO_SJ rfl (fun _ h => (List.mem_cons_of_mem _ (List.mem_append_left _ (List.mem_append_left _ (List.mem_append_left _ (List.mem_append_left _ (List.mem_append_left _ (List.mem_append_left _ (List.mem_append_right _ h))))))))) (by decide) (List.mem_cons_of_mem _ (List.mem_append_left _ (List.mem_append_left _ (List.mem_append_left _ (List.mem_append_left _ (List.mem_append_left _ (List.mem_append_left _ (List.mem_append_left _ (List.mem_append_left _ (List.mem_of_getElem? (i := 1) rfl)))))))))) rfl dX7_isSound_5 rfl ?_
  refine v_callVir (c := 1) (As := [.ref (vAd X (2 + 0))]) (rest := []) K isO_Bd rfl 1 (c_X0_isBalanced X.1.2.1 K.2.2.2.2.2.2 _ _ _ μ 0 (by omega) hW (by omega)) gX7_isSound_X0_isBalanced rfl rfl rfl (by decide +kernel) ⟨(Nat.le_of_ble_eq_true rfl), (Nat.le_of_ble_eq_true rfl)⟩ rfl rfl (Nat.le_of_ble_eq_true rfl) dX7_isSound_8 ⟨(Nat.le_of_ble_eq_true rfl), (Nat.le_of_ble_eq_true rfl)⟩ ?_
  refine v_top (b := 1) (by rw [if_pos hbal]) ?_
  refine v_if_ne 16 K dX7_isSound_11 (by decide) (by decide) (fun c11 => ?_) (fun c11 => (by exfalso; omega))
  refine v_aload_n 0 K dX7_isSound_16 rfl ?_
  refine v_get (c := 0) (k := 0) (C := RX7) (T := TX7) (N := 7) (v := .ref (vAd X 1)) K isO_SJ rfl (fun _ h => (List.mem_cons_of_mem _ (List.mem_append_left _ (List.mem_append_left _ (List.mem_append_left _ (List.mem_append_left _ (List.mem_append_left _ (List.mem_append_left _ (List.mem_append_right _ h))))))))) (by decide) (List.mem_cons_of_mem _ (List.mem_append_left _ (List.mem_append_left _ (List.mem_append_left _ (List.mem_append_left _ (List.mem_append_left _ (List.mem_append_left _ (List.mem_append_left _ (List.mem_append_left _ (List.mem_of_getElem? (i := 0) rfl)))))))))) rfl dX7_isSound_17 rfl ?_
  refine v_aload_n 0 K dX7_isSound_20 rfl ?_
  refine v_get (c := 0) (k := 1) (C := RX7) (T := TX7) (N := 7) (v := .ref (vAd X (2 + 0))) K isO_SJ rfl (fun _ h => (List.mem_cons_of_mem _ (List.mem_append_left _ (List.mem_append_left _ (List.mem_append_left _ (List.mem_append_left _ (List.mem_append_left _ (List.mem_append_left _ (List.mem_append_right _ h))))))))) (by decide) (List.mem_cons_of_mem _ (List.mem_append_left _ (List.mem_append_left _ (List.mem_append_left _ (List.mem_append_left _ (List.mem_append_left _ (List.mem_append_left _ (List.mem_append_left _ (List.mem_append_left _ (List.mem_of_getElem? (i := 1) rfl)))))))))) rfl dX7_isSound_21 rfl ?_
  refine v_callVis (c := 1) (As := [.ref (vAd X (2 + 0))]) (rest := []) K isO_Bd rfl 1 (c_X0_isEven X.1.2.1 K.2.2.2.2.2.2 _ _ _ μ 0 (by omega) hW (by omega)) gX7_isSound_X0_isEven rfl rfl rfl (by decide +kernel) ⟨(Nat.le_of_ble_eq_true rfl), (Nat.le_of_ble_eq_true rfl)⟩ rfl rfl (Nat.le_of_ble_eq_true rfl) dX7_isSound_24 ⟨(Nat.le_of_ble_eq_true rfl), (Nat.le_of_ble_eq_true rfl)⟩ (fun z24 q24 => ?_)
  refine v_if_ne 32 K dX7_isSound_27 (by decide) (by omega) (fun c27 => ?_) (fun c27 => ?_)
  · refine v_aload_n 0 K dX7_isSound_32 rfl ?_
    refine v_get (c := 0) (k := 3) (C := RX7) (T := TX7) (N := 7) (v := .ref (vAd X 4)) K isO_SJ rfl (fun _ h => (List.mem_cons_of_mem _ (List.mem_append_left _ (List.mem_append_left _ (List.mem_append_left _ (List.mem_append_left _ (List.mem_append_left _ (List.mem_append_left _ (List.mem_append_right _ h))))))))) (by decide) (List.mem_cons_of_mem _ (List.mem_append_left _ (List.mem_append_left _ (List.mem_append_left _ (List.mem_append_left _ (List.mem_append_left _ (List.mem_append_left _ (List.mem_append_left _ (List.mem_append_left _ (List.mem_of_getElem? (i := 2) rfl)))))))))) rfl dX7_isSound_33 rfl ?_
    refine v_aload_n 0 K dX7_isSound_36 rfl ?_
    refine v_get (c := 0) (k := 0) (C := RX7) (T := TX7) (N := 7) (v := .ref (vAd X 1)) K isO_SJ rfl (fun _ h => (List.mem_cons_of_mem _ (List.mem_append_left _ (List.mem_append_left _ (List.mem_append_left _ (List.mem_append_left _ (List.mem_append_left _ (List.mem_append_left _ (List.mem_append_right _ h))))))))) (by decide) (List.mem_cons_of_mem _ (List.mem_append_left _ (List.mem_append_left _ (List.mem_append_left _ (List.mem_append_left _ (List.mem_append_left _ (List.mem_append_left _ (List.mem_append_left _ (List.mem_append_left _ (List.mem_of_getElem? (i := 0) rfl)))))))))) rfl dX7_isSound_37 rfl ?_
    refine v_aload_n 0 K dX7_isSound_40 rfl ?_
    refine v_get (c := 0) (k := 1) (C := RX7) (T := TX7) (N := 7) (v := .ref (vAd X (2 + 0))) K isO_SJ rfl (fun _ h => (List.mem_cons_of_mem _ (List.mem_append_left _ (List.mem_append_left _ (List.mem_append_left _ (List.mem_append_left _ (List.mem_append_left _ (List.mem_append_left _ (List.mem_append_right _ h))))))))) (by decide) (List.mem_cons_of_mem _ (List.mem_append_left _ (List.mem_append_left _ (List.mem_append_left _ (List.mem_append_left _ (List.mem_append_left _ (List.mem_append_left _ (List.mem_append_left _ (List.mem_append_left _ (List.mem_of_getElem? (i := 1) rfl)))))))))) rfl dX7_isSound_41 rfl ?_
    refine v_callVv (c := 4) (As := [.ref (vAd X 1), .ref (vAd X (2 + 0))]) (rest := []) K isO_Sv rfl 2 (c_X6_number X.1.2.1 K.2.2.2.2.2.2 _ _ _ μ hW hL hlw) gX7_isSound_X6_number rfl rfl rfl (by decide +kernel) ⟨(Nat.le_of_ble_eq_true rfl), (Nat.le_of_ble_eq_true rfl)⟩ rfl rfl (Nat.le_of_ble_eq_true rfl) dX7_isSound_44 ⟨(Nat.le_of_ble_eq_true rfl), (Nat.le_of_ble_eq_true rfl)⟩ (fun ν q44 => ?_)
    obtain ⟨hS, hL1ν, hpcν, hag⟩ := SV_of hW hL hL1 hlw q44
    have h6ν := hS.1.pc6
    have hpd := pdI_rng6 ν (i := pcn ν) h6ν.1
    refine v_aload_n 0 K dX7_isSound_47 rfl ?_
    refine v_get (c := 0) (k := 3) (C := RX7) (T := TX7) (N := 7) (v := .ref (vAd X 4)) K isO_SJ rfl (fun _ h => (List.mem_cons_of_mem _ (List.mem_append_left _ (List.mem_append_left _ (List.mem_append_left _ (List.mem_append_left _ (List.mem_append_left _ (List.mem_append_left _ (List.mem_append_right _ h))))))))) (by decide) (List.mem_cons_of_mem _ (List.mem_append_left _ (List.mem_append_left _ (List.mem_append_left _ (List.mem_append_left _ (List.mem_append_left _ (List.mem_append_left _ (List.mem_append_left _ (List.mem_append_left _ (List.mem_of_getElem? (i := 2) rfl)))))))))) rfl dX7_isSound_48 rfl ?_
    refine v_get (c := 4) (k := 11) (C := RX6) (T := TX6) (N := 13) (v := .int (iZ (ν 4 11))) K isO_Sv rfl (fun _ h => (List.mem_cons_of_mem _ (List.mem_append_left _ (List.mem_append_left _ (List.mem_append_left _ (List.mem_append_left _ (List.mem_append_left _ (List.mem_append_right _ h)))))))) (by decide) (List.mem_cons_of_mem _ (List.mem_append_left _ (List.mem_append_left _ (List.mem_append_left _ (List.mem_append_left _ (List.mem_append_left _ (List.mem_append_left _ (List.mem_append_left _ (List.mem_append_left _ (List.mem_of_getElem? (i := 3) rfl)))))))))) rfl dX7_isSound_51 rfl ?_
    refine v_top (b := (pdI ν (pcn ν))) (by rw [hS.2.2.2.2]) ?_
    refine v_sipush K dX7_isSound_54 (by decide) ?_
    refine v_icmp_le 62 K dX7_isSound_57 (by decide) (by omega) (by decide) (fun c57 => ?_) (fun c57 => (by exfalso; omega))
    refine v_aload_n 0 K dX7_isSound_62 rfl ?_
    refine v_get (c := 0) (k := 3) (C := RX7) (T := TX7) (N := 7) (v := .ref (vAd X 4)) K isO_SJ rfl (fun _ h => (List.mem_cons_of_mem _ (List.mem_append_left _ (List.mem_append_left _ (List.mem_append_left _ (List.mem_append_left _ (List.mem_append_left _ (List.mem_append_left _ (List.mem_append_right _ h))))))))) (by decide) (List.mem_cons_of_mem _ (List.mem_append_left _ (List.mem_append_left _ (List.mem_append_left _ (List.mem_append_left _ (List.mem_append_left _ (List.mem_append_left _ (List.mem_append_left _ (List.mem_append_left _ (List.mem_of_getElem? (i := 2) rfl)))))))))) rfl dX7_isSound_63 rfl ?_
    refine v_aload_n 0 K dX7_isSound_66 rfl ?_
    refine v_get (c := 0) (k := 0) (C := RX7) (T := TX7) (N := 7) (v := .ref (vAd X 1)) K isO_SJ rfl (fun _ h => (List.mem_cons_of_mem _ (List.mem_append_left _ (List.mem_append_left _ (List.mem_append_left _ (List.mem_append_left _ (List.mem_append_left _ (List.mem_append_left _ (List.mem_append_right _ h))))))))) (by decide) (List.mem_cons_of_mem _ (List.mem_append_left _ (List.mem_append_left _ (List.mem_append_left _ (List.mem_append_left _ (List.mem_append_left _ (List.mem_append_left _ (List.mem_append_left _ (List.mem_append_left _ (List.mem_of_getElem? (i := 0) rfl)))))))))) rfl dX7_isSound_67 rfl ?_
    refine v_callVv (c := 4) (As := [.ref (vAd X 1)]) (rest := []) K isO_Sv rfl 1 (c_X6_fill X.1.2.1 K.2.2.2.2.2.2 _ _ _ ν ν hS AS_rf hL1ν) gX7_isSound_X6_fill rfl rfl rfl (by decide +kernel) ⟨(Nat.le_of_ble_eq_true rfl), (Nat.le_of_ble_eq_true rfl)⟩ rfl rfl (Nat.le_of_ble_eq_true rfl) dX7_isSound_70 ⟨(Nat.le_of_ble_eq_true rfl), (Nat.le_of_ble_eq_true rfl)⟩ (fun ν5 q70 => ?_)
    have hev := even_of hW hlw hag (by omega) q24
    obtain ⟨m, hm⟩ := hev
    obtain ⟨hGR, hcar⟩ := even_ok hS hm q70
    have hcr := sm_rng (carF ν5) 1 (pdI ν (pcn ν)).toNat (fun i _ => by unfold carF; split <;> omega)
    refine v_aload_n 0 K dX7_isSound_73 rfl ?_
    refine v_get (c := 0) (k := 3) (C := RX7) (T := TX7) (N := 7) (v := .ref (vAd X 4)) K isO_SJ rfl (fun _ h => (List.mem_cons_of_mem _ (List.mem_append_left _ (List.mem_append_left _ (List.mem_append_left _ (List.mem_append_left _ (List.mem_append_left _ (List.mem_append_left _ (List.mem_append_right _ h))))))))) (by decide) (List.mem_cons_of_mem _ (List.mem_append_left _ (List.mem_append_left _ (List.mem_append_left _ (List.mem_append_left _ (List.mem_append_left _ (List.mem_append_left _ (List.mem_append_left _ (List.mem_append_left _ (List.mem_of_getElem? (i := 2) rfl)))))))))) rfl dX7_isSound_74 rfl ?_
    refine v_callVir (c := 4) (As := []) (rest := []) K isO_Sv rfl 0 (c_X6_countAtRest X.1.2.1 K.2.2.2.2.2.2 _ _ _ ν5 ((pdI ν (pcn ν)).toNat) (by omega) hGR.2.1 hGR.2.2.1) gX7_isSound_X6_countAtRest rfl rfl rfl (by decide +kernel) ⟨(Nat.le_of_ble_eq_true rfl), (Nat.le_of_ble_eq_true rfl)⟩ rfl rfl (Nat.le_of_ble_eq_true rfl) dX7_isSound_77 ⟨(Nat.le_of_ble_eq_true rfl), (Nat.le_of_ble_eq_true rfl)⟩ ?_
    refine v_if_le 97 K dX7_isSound_80 (by decide) (by omega) (fun c80 => (by exfalso; omega)) (fun c80 => ?_)
    refine v_aload_n 0 K dX7_isSound_83 rfl ?_
    refine v_get (c := 0) (k := 3) (C := RX7) (T := TX7) (N := 7) (v := .ref (vAd X 4)) K isO_SJ rfl (fun _ h => (List.mem_cons_of_mem _ (List.mem_append_left _ (List.mem_append_left _ (List.mem_append_left _ (List.mem_append_left _ (List.mem_append_left _ (List.mem_append_left _ (List.mem_append_right _ h))))))))) (by decide) (List.mem_cons_of_mem _ (List.mem_append_left _ (List.mem_append_left _ (List.mem_append_left _ (List.mem_append_left _ (List.mem_append_left _ (List.mem_append_left _ (List.mem_append_left _ (List.mem_append_left _ (List.mem_of_getElem? (i := 2) rfl)))))))))) rfl dX7_isSound_84 rfl ?_
    refine v_callVi (c := 4) (As := []) (rest := []) K isO_Sv rfl 0 (c_X6_anyRing X.1.2.1 K.2.2.2.2.2.2 _ _ _ ν5 ((pdI ν (pcn ν)).toNat) (fun k => phi ν m (wyk ν (k : Int))) hGR) gX7_isSound_X6_anyRing rfl rfl rfl (by decide +kernel) ⟨(Nat.le_of_ble_eq_true rfl), (Nat.le_of_ble_eq_true rfl)⟩ rfl rfl (Nat.le_of_ble_eq_true rfl) dX7_isSound_87 ⟨(Nat.le_of_ble_eq_true rfl), (Nat.le_of_ble_eq_true rfl)⟩ (fun zr ν6 q87 => ?_)
    refine v_if_ne 97 K dX7_isSound_90 (by decide) (by omega) (fun c90 => (by exfalso; omega)) (fun c90 => ?_)
    refine v_iconst K dX7_isSound_93 ?_
    refine v_goto 98 K dX7_isSound_94 (by decide) ?_
    exact hret _ _ rfl _ _ _ _ _ (Nat.le_of_ble_eq_true rfl) (Nat.le_of_ble_eq_true rfl) dX7_isSound_98
  · refine v_iconst K dX7_isSound_30 ?_
    exact hret _ _ rfl _ _ _ _ _ (Nat.le_of_ble_eq_true rfl) (Nat.le_of_ble_eq_true rfl) dX7_isSound_31
theorem c_X7_isSound (l : Launch) (hl : l.stackTraces = false) (D : va_G) (cy : Nat → ClassId) (ad : Nat → Nat) (μ : Mem) (hW : WF μ) (hL : PL μ 0) (hL1 : PL μ 1) (hlw : LW μ) (hwb : WB μ) : cI l yX7_isSound wsX7_isSound ({ frames := 5, cells := 0, slots := 0, locals := 119 } : Room) D cy ad μ [.ref (ad 0)] (fun (z : Int) (ν : Mem) => z = 1) :=
  m_int (av := (fun ad => [.ref (ad 0)])) hl (by decide) rfl rfl (Nat.le_of_ble_eq_true rfl) (fun z ν q => (nar_z (by omega)).1) (fun X K hret => b_X7_isSound hW hL hL1 hlw hwb K hret)
