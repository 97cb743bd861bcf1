theorem dL_delay_0 : decode cL_delay 0 = .ok (.iload_n 3, 1) := by decide +kernel
theorem dL_delay_1 : decode cL_delay 1 = .ok (.ifCond .ne 5, 3) := by decide +kernel
theorem dL_delay_6 : decode cL_delay 6 = .ok (.iload_n 2, 1) := by decide +kernel
theorem dL_delay_7 : decode cL_delay 7 = .ok (.iload_n 0, 1) := by decide +kernel
theorem dL_delay_8 : decode cL_delay 8 = .ok (.ifCond .ne 7, 3) := by decide +kernel
theorem dL_delay_15 : decode cL_delay 15 = .ok (.iload_n 0, 1) := by decide +kernel
theorem dL_delay_16 : decode cL_delay 16 = .ok (.iconst 1, 1) := by decide +kernel
theorem dL_delay_17 : decode cL_delay 17 = .ok (.if_icmp .ne 9, 3) := by decide +kernel
theorem dL_delay_26 : decode cL_delay 26 = .ok (.iload_n 0, 1) := by decide +kernel
theorem dL_delay_27 : decode cL_delay 27 = .ok (.iconst 2, 1) := by decide +kernel
theorem dL_delay_28 : decode cL_delay 28 = .ok (.if_icmp .ne 11, 3) := by decide +kernel
theorem dL_delay_39 : decode cL_delay 39 = .ok (.bipush 100, 2) := by decide +kernel
theorem dL_delay_41 : decode cL_delay 41 = .ok (.iload_n 1, 1) := by decide +kernel
theorem dL_delay_42 : decode cL_delay 42 = .ok (.imul, 1) := by decide +kernel
theorem dL_delay_43 : decode cL_delay 43 = .ok (.iload_n 3, 1) := by decide +kernel
theorem dL_delay_44 : decode cL_delay 44 = .ok (.idiv, 1) := by decide +kernel
theorem dL_delay_45 : decode cL_delay 45 = .ok (.bipush 100, 2) := by decide +kernel
theorem dL_delay_47 : decode cL_delay 47 = .ok (.iload_n 1, 1) := by decide +kernel
theorem dL_delay_48 : decode cL_delay 48 = .ok (.imul, 1) := by decide +kernel
theorem dL_delay_49 : decode cL_delay 49 = .ok (.iload_n 3, 1) := by decide +kernel
theorem dL_delay_50 : decode cL_delay 50 = .ok (.irem, 1) := by decide +kernel
theorem dL_delay_51 : decode cL_delay 51 = .ok (.ifCond .ne 7, 3) := by decide +kernel
theorem dL_delay_58 : decode cL_delay 58 = .ok (.iconst 1, 1) := by decide +kernel
theorem dL_delay_59 : decode cL_delay 59 = .ok (.iadd, 1) := by decide +kernel
theorem dL_delay_60 : decode cL_delay 60 = .ok (.iadd, 1) := by decide +kernel
theorem dL_delay_61 : decode cL_delay 61 = .ok (.ireturn, 1) := by decide +kernel
theorem dL_delay_54 : decode cL_delay 54 = .ok (.iconst 0, 1) := by decide +kernel
theorem dL_delay_55 : decode cL_delay 55 = .ok (.goto 4, 3) := by decide +kernel
theorem dL_delay_31 : decode cL_delay 31 = .ok (.iload_n 1, 1) := by decide +kernel
theorem dL_delay_32 : decode cL_delay 32 = .ok (.iload_n 3, 1) := by decide +kernel
theorem dL_delay_33 : decode cL_delay 33 = .ok (.imul, 1) := by decide +kernel
theorem dL_delay_34 : decode cL_delay 34 = .ok (.iload_n 3, 1) := by decide +kernel
theorem dL_delay_35 : decode cL_delay 35 = .ok (.imul, 1) := by decide +kernel
theorem dL_delay_36 : decode cL_delay 36 = .ok (.goto 24, 3) := by decide +kernel
theorem dL_delay_20 : decode cL_delay 20 = .ok (.iload_n 1, 1) := by decide +kernel
theorem dL_delay_21 : decode cL_delay 21 = .ok (.iload_n 3, 1) := by decide +kernel
theorem dL_delay_22 : decode cL_delay 22 = .ok (.imul, 1) := by decide +kernel
theorem dL_delay_23 : decode cL_delay 23 = .ok (.goto 37, 3) := by decide +kernel
theorem dL_delay_11 : decode cL_delay 11 = .ok (.iconst 0, 1) := by decide +kernel
theorem dL_delay_12 : decode cL_delay 12 = .ok (.goto 48, 3) := by decide +kernel
theorem dL_delay_4 : decode cL_delay 4 = .ok (.iconst 0, 1) := by decide +kernel
theorem dL_delay_5 : decode cL_delay 5 = .ok (.ireturn, 1) := by decide +kernel
set_option maxHeartbeats 4000000 in
set_option maxRecDepth 100000 in
theorem b_L_delay {X : VC} {μ : Mem} (k : Int) (a : Int) (b : Int) (x : Int) (hk : 0 ≤ k ∧ k ≤ 3) (ha : 0 ≤ a ∧ a ≤ 20) (hb : 0 ≤ b ∧ b ≤ 100) (hx : 0 ≤ x ∧ x ≤ 100) (K : vK X cL_delay 4 RL wsL_delay ({ frames := 0, cells := 0, slots := 0, locals := 0 } : Room)) (hret : ∀ (z : Int) (ν : Mem), (fun (z : Int) (ν : Mem) => z = ldq k a b x ∧ ν = μ) z ν → ∀ n pc k1 k2 lv, k1 ≤ 0 → k2 ≤ 0 → decode cL_delay pc = .ok (.ireturn, 1) → vW X n pc k1 k2 lv [.int (iZ z)] ν) : vW X 4 0 0 0 [(0, .int (iZ k)), (1, .int (iZ a)), (2, .int (iZ b)), (3, .int (iZ x))] [] μ := by
  refine v_iload_n 3 K dL_delay_0 rfl ?_
  refine v_if_ne 6 K dL_delay_1 (by decide) (by omega) (fun c1 => ?_) (fun c1 => ?_)
  · refine v_iload_n 2 K dL_delay_6 rfl ?_
    refine v_iload_n 0 K dL_delay_7 rfl ?_
    refine v_if_ne 15 K dL_delay_8 (by decide) (by omega) (fun c8 => ?_) (fun c8 => ?_)
    · refine v_iload_n 0 K dL_delay_15 rfl ?_
      refine v_iconst K dL_delay_16 ?_
      refine v_icmp_ne 26 K dL_delay_17 (by decide) (by omega) (by decide) (fun c17 => ?_) (fun c17 => ?_)
      · refine v_iload_n 0 K dL_delay_26 rfl ?_
        refine v_iconst K dL_delay_27 ?_
        refine v_icmp_ne 39 K dL_delay_28 (by decide) (by omega) (by decide) (fun c28 => ?_) (fun c28 => ?_)
        · refine v_bipush K dL_delay_39 (by decide) ?_
          refine v_iload_n 1 K dL_delay_41 rfl ?_
          refine v_imul K dL_delay_42 ?_
          refine v_iload_n 3 K dL_delay_43 rfl ?_
          refine v_idiv (by omega) (by omega) K dL_delay_44 ?_
          refine v_bipush K dL_delay_45 (by decide) ?_
          refine v_iload_n 1 K dL_delay_47 rfl ?_
          refine v_imul K dL_delay_48 ?_
          refine v_iload_n 3 K dL_delay_49 rfl ?_
          refine v_irem (by omega) (by omega) K dL_delay_50 ?_
          have hm1 := Int.emod_nonneg (100 * a) (show x ≠ 0 by omega)
          have hm2 := Int.emod_lt_of_pos (100 * a) (show 0 < x by omega)
          refine v_if_ne 58 K dL_delay_51 (by decide) (by omega) (fun c51 => ?_) (fun c51 => ?_)
          · refine v_iconst K dL_delay_58 ?_
            refine v_iadd K dL_delay_59 ?_
            refine v_iadd K dL_delay_60 ?_
            exact hret _ _ ⟨(by unfold ldq; (repeat' split) <;> omega), rfl⟩ _ _ _ _ _ (Nat.le_of_ble_eq_true rfl) (Nat.le_of_ble_eq_true rfl) dL_delay_61
          · refine v_iconst K dL_delay_54 ?_
            refine v_goto 59 K dL_delay_55 (by decide) ?_
            refine v_iadd K dL_delay_59 ?_
            refine v_iadd K dL_delay_60 ?_
            exact hret _ _ ⟨(by unfold ldq; (repeat' split) <;> omega), rfl⟩ _ _ _ _ _ (Nat.le_of_ble_eq_true rfl) (Nat.le_of_ble_eq_true rfl) dL_delay_61
        · refine v_iload_n 1 K dL_delay_31 rfl ?_
          refine v_iload_n 3 K dL_delay_32 rfl ?_
          refine v_imul K dL_delay_33 ?_
          refine v_iload_n 3 K dL_delay_34 rfl ?_
          refine v_imul K dL_delay_35 ?_
          refine v_goto 60 K dL_delay_36 (by decide) ?_
          refine v_iadd K dL_delay_60 ?_
          exact hret _ _ ⟨(by unfold ldq; (repeat' split) <;> omega), rfl⟩ _ _ _ _ _ (Nat.le_of_ble_eq_true rfl) (Nat.le_of_ble_eq_true rfl) dL_delay_61
      · refine v_iload_n 1 K dL_delay_20 rfl ?_
        refine v_iload_n 3 K dL_delay_21 rfl ?_
        refine v_imul K dL_delay_22 ?_
        refine v_goto 60 K dL_delay_23 (by decide) ?_
        refine v_iadd K dL_delay_60 ?_
        exact hret _ _ ⟨(by unfold ldq; (repeat' split) <;> omega), rfl⟩ _ _ _ _ _ (Nat.le_of_ble_eq_true rfl) (Nat.le_of_ble_eq_true rfl) dL_delay_61
    · refine v_iconst K dL_delay_11 ?_
      refine v_goto 60 K dL_delay_12 (by decide) ?_
      refine v_iadd K dL_delay_60 ?_
      exact hret _ _ ⟨(by unfold ldq; (repeat' split) <;> omega), rfl⟩ _ _ _ _ _ (Nat.le_of_ble_eq_true rfl) (Nat.le_of_ble_eq_true rfl) dL_delay_61
  · refine v_iconst K dL_delay_4 ?_
    exact hret _ _ ⟨(by unfold ldq; rw [if_pos (by omega)]), rfl⟩ _ _ _ _ _ (Nat.le_of_ble_eq_true rfl) (Nat.le_of_ble_eq_true rfl) dL_delay_5
theorem c_L_delay (l : Launch) (hl : l.stackTraces = false) (D : va_G) (cy : Nat → ClassId) (ad : Nat → Nat) (μ : Mem) (k : Int) (a : Int) (b : Int) (x : Int) (hk : 0 ≤ k ∧ k ≤ 3) (ha : 0 ≤ a ∧ a ≤ 20) (hb : 0 ≤ b ∧ b ≤ 100) (hx : 0 ≤ x ∧ x ≤ 100) : cI l yL_delay wsL_delay ({ frames := 0, cells := 0, slots := 0, locals := 0 } : Room) D cy ad μ [.int (iZ k), .int (iZ a), .int (iZ b), .int (iZ x)] (fun (z : Int) (ν : Mem) => z = ldq k a b x ∧ ν = μ) :=
  m_int (av := (fun ad => [.int (iZ k), .int (iZ a), .int (iZ b), .int (iZ x)])) hl (by decide) rfl rfl (Nat.le_of_ble_eq_true rfl) (fun _ _ _ => rfl) (fun X K hret => b_L_delay k a b x hk ha hb hx K hret)
theorem dL_load_0 : decode cL_load 0 = .ok (.iconst 0, 1) := by decide +kernel
theorem dL_load_1 : decode cL_load 1 = .ok (.istore_n 3, 1) := by decide +kernel
theorem dL_load_2 : decode cL_load 2 = .ok (.iconst 0, 1) := by decide +kernel
theorem dL_load_3 : decode cL_load 3 = .ok (.istore 4, 2) := by decide +kernel
theorem dL_load_5 : decode cL_load 5 = .ok (.iload 4, 2) := by decide +kernel
theorem dL_load_7 : decode cL_load 7 = .ok (.iload_n 1, 1) := by decide +kernel
theorem dL_load_8 : decode cL_load 8 = .ok (.if_icmp .ge 31, 3) := by decide +kernel
theorem dL_load_39 : decode cL_load 39 = .ok (.iload_n 3, 1) := by decide +kernel
theorem dL_load_40 : decode cL_load 40 = .ok (.ireturn, 1) := by decide +kernel
theorem dL_load_11 : decode cL_load 11 = .ok (.iload_n 3, 1) := by decide +kernel
theorem dL_load_12 : decode cL_load 12 = .ok (.aload_n 0, 1) := by decide +kernel
theorem dL_load_13 : decode cL_load 13 = .ok (.iconst 4, 1) := by decide +kernel
theorem dL_load_14 : decode cL_load 14 = .ok (.iload 4, 2) := by decide +kernel
theorem dL_load_16 : decode cL_load 16 = .ok (.imul, 1) := by decide +kernel
theorem dL_load_17 : decode cL_load 17 = .ok (.iconst 2, 1) := by decide +kernel
theorem dL_load_18 : decode cL_load 18 = .ok (.iadd, 1) := by decide +kernel
theorem dL_load_19 : decode cL_load 19 = .ok (.iaload, 1) := by decide +kernel
theorem dL_load_20 : decode cL_load 20 = .ok (.iload_n 2, 1) := by decide +kernel
theorem dL_load_21 : decode cL_load 21 = .ok (.ishr, 1) := by decide +kernel
theorem dL_load_22 : decode cL_load 22 = .ok (.iconst 1, 1) := by decide +kernel
theorem dL_load_23 : decode cL_load 23 = .ok (.iand, 1) := by decide +kernel
theorem dL_load_24 : decode cL_load 24 = .ok (.aload_n 0, 1) := by decide +kernel
theorem dL_load_25 : decode cL_load 25 = .ok (.iconst 4, 1) := by decide +kernel
theorem dL_load_26 : decode cL_load 26 = .ok (.iload 4, 2) := by decide +kernel
theorem dL_load_28 : decode cL_load 28 = .ok (.imul, 1) := by decide +kernel
theorem dL_load_29 : decode cL_load 29 = .ok (.iaload, 1) := by decide +kernel
theorem dL_load_30 : decode cL_load 30 = .ok (.imul, 1) := by decide +kernel
theorem dL_load_31 : decode cL_load 31 = .ok (.iadd, 1) := by decide +kernel
theorem dL_load_32 : decode cL_load 32 = .ok (.istore_n 3, 1) := by decide +kernel
theorem dL_load_33 : decode cL_load 33 = .ok (.iinc 4 1, 3) := by decide +kernel
theorem dL_load_36 : decode cL_load 36 = .ok (.goto (-31), 3) := by decide +kernel
set_option maxHeartbeats 4000000 in
set_option maxRecDepth 100000 in
theorem b_L_load {X : VC} {μ : Mem} (n : Nat) (r : Nat) (hA : POK μ n) (hr : r < 8) (K : vK X cL_load 5 RL wsL_load ({ frames := 0, cells := 0, slots := 0, locals := 0 } : Room)) (hret : ∀ (z : Int) (ν : Mem), (fun (z : Int) (ν : Mem) => z = lld μ n r ∧ ν = μ) z ν → ∀ n pc k1 k2 lv, k1 ≤ 0 → k2 ≤ 0 → decode cL_load pc = .ok (.ireturn, 1) → vW X n pc k1 k2 lv [.int (iZ z)] ν) : vW X 5 0 0 0 [(0, .ref (vAd X 50)), (1, .int (iZ (n : Int))), (2, .int (iZ (r : Int)))] [] μ := by
  have hn6 := hA.1
  refine v_iconst K dL_load_0 ?_
  refine v_istore_n [(3, .int (iZ 0)), (0, .ref (vAd X 50)), (1, .int (iZ (n : Int))), (2, .int (iZ (r : Int)))] K dL_load_1 (by decide) rfl ?_
  refine v_iconst K dL_load_2 ?_
  refine v_istore [(4, .int (iZ 0)), (3, .int (iZ 0)), (0, .ref (vAd X 50)), (1, .int (iZ (n : Int))), (2, .int (iZ (r : Int)))] K dL_load_3 (by decide) rfl ?_
  have L5 : ∀ (fuel : Nat) (p : Nat) (hm : 7 - p < fuel) (hp : p ≤ n), vW X 5 5 0 0 [(0, .ref (vAd X 50)), (1, .int (iZ (n : Int))), (2, .int (iZ (r : Int))), (3, .int (iZ (lld μ p r))), (4, .int (iZ (p : Int)))] [] μ := by
    intro fuel
    induction fuel with
    | zero => intro p hm; exact absurd hm (Nat.not_lt_zero _)
    | succ fuel ih5 =>
      intro p hm hp
      refine v_iload 4 K dL_load_5 rfl ?_
      refine v_iload_n 1 K dL_load_7 rfl ?_
      refine v_icmp_ge 39 K dL_load_8 (by decide) (by omega) (by omega) (fun c8 => ?_) (fun c8 => ?_)
      · refine v_iload_n 3 K dL_load_39 rfl ?_
        exact hret _ _ ⟨(by rw [show n = p by omega]), rfl⟩ _ _ _ _ _ (Nat.le_of_ble_eq_true rfl) (Nat.le_of_ble_eq_true rfl) dL_load_40
      · have hq := hA.2 p (by omega)
        refine v_iload_n 3 K dL_load_11 rfl ?_
        refine v_aload_n 0 K dL_load_12 rfl ?_
        refine v_iconst K dL_load_13 ?_
        refine v_iload 4 K dL_load_14 rfl ?_
        refine v_imul K dL_load_16 ?_
        refine v_iconst K dL_load_17 ?_
        refine v_iadd K dL_load_18 ?_
        refine v_iald (c := 50) ((4 * p) + 2) K isI_50 (by omega) (by omega) dL_load_19 ?_
        refine v_iload_n 2 K dL_load_20 rfl ?_
        refine v_ishr (z := ((((μ 50 ((4 * p) + 2))).toNat / 2 ^ r : Nat) : Int)) (iZ_shr (by omega) (by omega)) K dL_load_21 ?_
        refine v_iconst K dL_load_22 ?_
        refine v_iand (z := (tz (μ 50 (4 * p + 2)) r)) iZ_and1 K dL_load_23 ?_
        refine v_aload_n 0 K dL_load_24 rfl ?_
        refine v_iconst K dL_load_25 ?_
        refine v_iload 4 K dL_load_26 rfl ?_
        refine v_imul K dL_load_28 ?_
        refine v_iald (c := 50) (4 * p) K isI_50 (by omega) (by omega) dL_load_29 ?_
        refine v_imul K dL_load_30 ?_
        refine v_iadd K dL_load_31 ?_
        refine v_istore_n [(3, .int (iZ ((lld μ p r) + ((tz (μ 50 (4 * p + 2)) r) * (μ 50 (4 * p)))))), (0, .ref (vAd X 50)), (1, .int (iZ (n : Int))), (2, .int (iZ (r : Int))), (4, .int (iZ (p : Int)))] K dL_load_32 (by decide) rfl ?_
        refine v_iinc 4 [(4, .int (iZ ((p : Int) + 1))), (3, .int (iZ ((lld μ p r) + ((tz (μ 50 (4 * p + 2)) r) * (μ 50 (4 * p)))))), (0, .ref (vAd X 50)), (1, .int (iZ (n : Int))), (2, .int (iZ (r : Int)))] K dL_load_33 rfl (by decide) rfl ?_
        refine v_goto 5 K dL_load_36 (by decide) ?_
        refine v_sub [2, 3, 4, 1, 0] rfl ?_
        refine v_eq (lv1 := [(0, .ref (vAd X 50)), (1, .int (iZ (n : Int))), (2, .int (iZ (r : Int))), (3, .int (iZ (lld μ (p + 1) r))), (4, .int (iZ (((p + 1) : Nat) : Int)))]) (st1 := []) (v_c0 (v_c0 (v_c0 (v_cI rfl (v_cI (by first | rfl | omega) rfl))))) rfl ?_
        exact ih5 (p + 1) (by omega) (by omega)
  refine v_sub [2, 3, 4, 1, 0] rfl ?_
  refine v_eq (lv1 := [(0, .ref (vAd X 50)), (1, .int (iZ (n : Int))), (2, .int (iZ (r : Int))), (3, .int (iZ (lld μ 0 r))), (4, .int (iZ ((0 : Nat) : Int)))]) (st1 := []) (v_c0 (v_c0 (v_c0 (v_cI rfl (v_cI (by first | rfl | omega) rfl))))) rfl ?_
  exact L5 (7 - 0 + 1) 0 (by omega) (by omega)
theorem c_L_load (l : Launch) (hl : l.stackTraces = false) (D : va_G) (cy : Nat → ClassId) (ad : Nat → Nat) (μ : Mem) (n : Nat) (r : Nat) (hA : POK μ n) (hr : r < 8) : cI l yL_load wsL_load ({ frames := 0, cells := 0, slots := 0, locals := 0 } : Room) D cy ad μ [.ref (ad 50), .int (iZ (n : Int)), .int (iZ (r : Int))] (fun (z : Int) (ν : Mem) => z = lld μ n r ∧ ν = μ) :=
  m_int (av := (fun ad => [.ref (ad 50), .int (iZ (n : Int)), .int (iZ (r : Int))])) hl (by decide) rfl rfl (Nat.le_of_ble_eq_true rfl) (fun _ _ _ => rfl) (fun X K hret => b_L_load n r hA hr K hret)
theorem dL_cost_0 : decode cL_cost 0 = .ok (.iconst 0, 1) := by decide +kernel
theorem dL_cost_1 : decode cL_cost 1 = .ok (.istore 5, 2) := by decide +kernel
theorem dL_cost_3 : decode cL_cost 3 = .ok (.iconst 0, 1) := by decide +kernel
theorem dL_cost_4 : decode cL_cost 4 = .ok (.istore 6, 2) := by decide +kernel
theorem dL_cost_6 : decode cL_cost 6 = .ok (.iload 6, 2) := by decide +kernel
theorem dL_cost_8 : decode cL_cost 8 = .ok (.iload_n 1, 1) := by decide +kernel
theorem dL_cost_9 : decode cL_cost 9 = .ok (.if_icmp .ge 81, 3) := by decide +kernel
theorem dL_cost_90 : decode cL_cost 90 = .ok (.iload 5, 2) := by decide +kernel
theorem dL_cost_92 : decode cL_cost 92 = .ok (.ireturn, 1) := by decide +kernel
theorem dL_cost_12 : decode cL_cost 12 = .ok (.aload_n 2, 1) := by decide +kernel
theorem dL_cost_13 : decode cL_cost 13 = .ok (.iconst 4, 1) := by decide +kernel
theorem dL_cost_14 : decode cL_cost 14 = .ok (.iload 4, 2) := by decide +kernel
theorem dL_cost_16 : decode cL_cost 16 = .ok (.imul, 1) := by decide +kernel
theorem dL_cost_17 : decode cL_cost 17 = .ok (.iconst 2, 1) := by decide +kernel
theorem dL_cost_18 : decode cL_cost 18 = .ok (.iadd, 1) := by decide +kernel
theorem dL_cost_19 : decode cL_cost 19 = .ok (.iaload, 1) := by decide +kernel
theorem dL_cost_20 : decode cL_cost 20 = .ok (.iload 6, 2) := by decide +kernel
theorem dL_cost_22 : decode cL_cost 22 = .ok (.ishr, 1) := by decide +kernel
theorem dL_cost_23 : decode cL_cost 23 = .ok (.iconst 1, 1) := by decide +kernel
theorem dL_cost_24 : decode cL_cost 24 = .ok (.iand, 1) := by decide +kernel
theorem dL_cost_25 : decode cL_cost 25 = .ok (.iconst 1, 1) := by decide +kernel
theorem dL_cost_26 : decode cL_cost 26 = .ok (.if_icmp .ne 58, 3) := by decide +kernel
theorem dL_cost_84 : decode cL_cost 84 = .ok (.iinc 6 1, 3) := by decide +kernel
theorem dL_cost_87 : decode cL_cost 87 = .ok (.goto (-81), 3) := by decide +kernel
theorem dL_cost_29 : decode cL_cost 29 = .ok (.iload 5, 2) := by decide +kernel
theorem dL_cost_31 : decode cL_cost 31 = .ok (.aload_n 0, 1) := by decide +kernel
theorem dL_cost_32 : decode cL_cost 32 = .ok (.iconst 4, 1) := by decide +kernel
theorem dL_cost_33 : decode cL_cost 33 = .ok (.iload 6, 2) := by decide +kernel
theorem dL_cost_35 : decode cL_cost 35 = .ok (.imul, 1) := by decide +kernel
theorem dL_cost_36 : decode cL_cost 36 = .ok (.iaload, 1) := by decide +kernel
theorem dL_cost_37 : decode cL_cost 37 = .ok (.aload_n 0, 1) := by decide +kernel
theorem dL_cost_38 : decode cL_cost 38 = .ok (.iconst 4, 1) := by decide +kernel
theorem dL_cost_39 : decode cL_cost 39 = .ok (.iload 6, 2) := by decide +kernel
theorem dL_cost_41 : decode cL_cost 41 = .ok (.imul, 1) := by decide +kernel
theorem dL_cost_42 : decode cL_cost 42 = .ok (.iconst 1, 1) := by decide +kernel
theorem dL_cost_43 : decode cL_cost 43 = .ok (.iadd, 1) := by decide +kernel
theorem dL_cost_44 : decode cL_cost 44 = .ok (.iaload, 1) := by decide +kernel
theorem dL_cost_45 : decode cL_cost 45 = .ok (.aload_n 0, 1) := by decide +kernel
theorem dL_cost_46 : decode cL_cost 46 = .ok (.iconst 4, 1) := by decide +kernel
theorem dL_cost_47 : decode cL_cost 47 = .ok (.iload 6, 2) := by decide +kernel
theorem dL_cost_49 : decode cL_cost 49 = .ok (.imul, 1) := by decide +kernel
theorem dL_cost_50 : decode cL_cost 50 = .ok (.iconst 2, 1) := by decide +kernel
theorem dL_cost_51 : decode cL_cost 51 = .ok (.iadd, 1) := by decide +kernel
theorem dL_cost_52 : decode cL_cost 52 = .ok (.iaload, 1) := by decide +kernel
theorem dL_cost_53 : decode cL_cost 53 = .ok (.aload_n 2, 1) := by decide +kernel
theorem dL_cost_54 : decode cL_cost 54 = .ok (.iload_n 3, 1) := by decide +kernel
theorem dL_cost_55 : decode cL_cost 55 = .ok (.iload 6, 2) := by decide +kernel
theorem dL_cost_57 : decode cL_cost 57 = .ok (.invokestatic 94, 3) := by decide +kernel
set_option maxRecDepth 20000 in
theorem ggL_cost_L_load : GoodIn wsL_cost wsL_load := goodIn_ca (goodIn_r _ [4] (by decide +kernel) (by decide +kernel)) (goodIn_sub (fun _ h => List.mem_cons_of_mem _ (List.mem_append_right _ h)) (by decide +kernel))
set_option maxRecDepth 20000 in
theorem gL_cost_L_load : GoodIn wsL_cost (va_wsS RL 94 yL_load wsL_load) := goodIn_app (goodIn_of _ (by decide +kernel)) ggL_cost_L_load
theorem dL_cost_60 : decode cL_cost 60 = .ok (.invokestatic 98, 3) := by decide +kernel
set_option maxRecDepth 20000 in
theorem ggL_cost_L_delay : GoodIn wsL_cost wsL_delay := goodIn_r _ [7] (by decide +kernel) (by decide +kernel)
set_option maxRecDepth 20000 in
theorem gL_cost_L_delay : GoodIn wsL_cost (va_wsS RL 98 yL_delay wsL_delay) := goodIn_app (goodIn_of _ (by decide +kernel)) ggL_cost_L_delay
theorem dL_cost_63 : decode cL_cost 63 = .ok (.aload_n 0, 1) := by decide +kernel
theorem dL_cost_64 : decode cL_cost 64 = .ok (.iconst 4, 1) := by decide +kernel
theorem dL_cost_65 : decode cL_cost 65 = .ok (.iload 6, 2) := by decide +kernel
theorem dL_cost_67 : decode cL_cost 67 = .ok (.imul, 1) := by decide +kernel
theorem dL_cost_68 : decode cL_cost 68 = .ok (.iconst 3, 1) := by decide +kernel
theorem dL_cost_69 : decode cL_cost 69 = .ok (.iadd, 1) := by decide +kernel
theorem dL_cost_70 : decode cL_cost 70 = .ok (.iaload, 1) := by decide +kernel
theorem dL_cost_71 : decode cL_cost 71 = .ok (.aload_n 2, 1) := by decide +kernel
theorem dL_cost_72 : decode cL_cost 72 = .ok (.iconst 4, 1) := by decide +kernel
theorem dL_cost_73 : decode cL_cost 73 = .ok (.iload 4, 2) := by decide +kernel
theorem dL_cost_75 : decode cL_cost 75 = .ok (.imul, 1) := by decide +kernel
theorem dL_cost_76 : decode cL_cost 76 = .ok (.iconst 1, 1) := by decide +kernel
theorem dL_cost_77 : decode cL_cost 77 = .ok (.iadd, 1) := by decide +kernel
theorem dL_cost_78 : decode cL_cost 78 = .ok (.iaload, 1) := by decide +kernel
theorem dL_cost_79 : decode cL_cost 79 = .ok (.imul, 1) := by decide +kernel
theorem dL_cost_80 : decode cL_cost 80 = .ok (.iadd, 1) := by decide +kernel
theorem dL_cost_81 : decode cL_cost 81 = .ok (.iadd, 1) := by decide +kernel
theorem dL_cost_82 : decode cL_cost 82 = .ok (.istore 5, 2) := by decide +kernel
set_option maxHeartbeats 4000000 in
set_option maxRecDepth 100000 in
theorem b_L_cost {X : VC} {μ : Mem} (s : Nat) (n : Nat) (p : Nat) (hR : ROK μ s) (hA : POK μ n) (hp : p < n) (K : vK X cL_cost 7 RL wsL_cost ({ frames := 1, cells := 0, slots := 0, locals := 24 } : Room)) (hret : ∀ (z : Int) (ν : Mem), (fun (z : Int) (ν : Mem) => z = lcs μ s n p ∧ ν = μ) z ν → ∀ n pc k1 k2 lv, k1 ≤ 0 → k2 ≤ 0 → decode cL_cost pc = .ok (.ireturn, 1) → vW X n pc k1 k2 lv [.int (iZ z)] ν) : vW X 7 0 0 0 [(0, .ref (vAd X 49)), (1, .int (iZ (s : Int))), (2, .ref (vAd X 50)), (3, .int (iZ (n : Int))), (4, .int (iZ (p : Int)))] [] μ := by
  have hn6 := hA.1
  have hs5 := hR.1
  have hq := hA.2 p hp
  refine v_iconst K dL_cost_0 ?_
  refine v_istore [(5, .int (iZ 0)), (0, .ref (vAd X 49)), (1, .int (iZ (s : Int))), (2, .ref (vAd X 50)), (3, .int (iZ (n : Int))), (4, .int (iZ (p : Int)))] K dL_cost_1 (by decide) rfl ?_
  refine v_iconst K dL_cost_3 ?_
  refine v_istore [(6, .int (iZ 0)), (5, .int (iZ 0)), (0, .ref (vAd X 49)), (1, .int (iZ (s : Int))), (2, .ref (vAd X 50)), (3, .int (iZ (n : Int))), (4, .int (iZ (p : Int)))] K dL_cost_4 (by decide) rfl ?_
  have L6 : ∀ (fuel : Nat) (r : Nat) (hm : 9 - r < fuel) (hr : r ≤ s), vW X 7 6 0 0 [(0, .ref (vAd X 49)), (1, .int (iZ (s : Int))), (2, .ref (vAd X 50)), (3, .int (iZ (n : Int))), (4, .int (iZ (p : Int))), (5, .int (iZ (sm r (lcT μ n p)))), (6, .int (iZ (r : Int)))] [] μ := by
    intro fuel
    induction fuel with
    | zero => intro r hm; exact absurd hm (Nat.not_lt_zero _)
    | succ fuel ih6 =>
      intro r hm hr
      refine v_iload 6 K dL_cost_6 rfl ?_
      refine v_iload_n 1 K dL_cost_8 rfl ?_
      refine v_icmp_ge 90 K dL_cost_9 (by decide) (by omega) (by omega) (fun c9 => ?_) (fun c9 => ?_)
      · refine v_iload 5 K dL_cost_90 rfl ?_
        exact hret _ _ ⟨(by rw [show s = r by omega]; rfl), rfl⟩ _ _ _ _ _ (Nat.le_of_ble_eq_true rfl) (Nat.le_of_ble_eq_true rfl) dL_cost_92
      · have hr4 := hR.2 r (by omega)
        have hl := lld_rng hA r
        have h01 := tz_01 (μ 50 (4 * p + 2)) r
        refine v_aload_n 2 K dL_cost_12 rfl ?_
        refine v_iconst K dL_cost_13 ?_
        refine v_iload 4 K dL_cost_14 rfl ?_
        refine v_imul K dL_cost_16 ?_
        refine v_iconst K dL_cost_17 ?_
        refine v_iadd K dL_cost_18 ?_
        refine v_iald (c := 50) ((4 * p) + 2) K isI_50 (by omega) (by omega) dL_cost_19 ?_
        refine v_iload 6 K dL_cost_20 rfl ?_
        refine v_ishr (z := ((((μ 50 ((4 * p) + 2))).toNat / 2 ^ r : Nat) : Int)) (iZ_shr (by omega) (by omega)) K dL_cost_22 ?_
        refine v_iconst K dL_cost_23 ?_
        refine v_iand (z := (tz (μ 50 (4 * p + 2)) r)) iZ_and1 K dL_cost_24 ?_
        refine v_iconst K dL_cost_25 ?_
        refine v_icmp_ne 84 K dL_cost_26 (by decide) (by omega) (by decide) (fun c26 => ?_) (fun c26 => ?_)
        · refine v_iinc 6 [(6, .int (iZ ((r : Int) + 1))), (0, .ref (vAd X 49)), (1, .int (iZ (s : Int))), (2, .ref (vAd X 50)), (3, .int (iZ (n : Int))), (4, .int (iZ (p : Int))), (5, .int (iZ (sm r (lcT μ n p))))] K dL_cost_84 rfl (by decide) rfl ?_
          refine v_goto 6 K dL_cost_87 (by decide) ?_
          refine v_sub [1, 2, 3, 4, 5, 6, 0] rfl ?_
          refine v_eq (lv1 := [(0, .ref (vAd X 49)), (1, .int (iZ (s : Int))), (2, .ref (vAd X 50)), (3, .int (iZ (n : Int))), (4, .int (iZ (p : Int))), (5, .int (iZ (sm (r + 1) (lcT μ n p)))), (6, .int (iZ (((r + 1) : Nat) : Int)))]) (st1 := []) (v_c0 (v_c0 (v_c0 (v_c0 (v_c0 (v_cI (by first | rw [sm_s, lcT_y (by omega)] | (rw [sm_s, lcT_n (by omega)]; omega)) (v_cI (by first | rfl | omega) rfl))))))) rfl ?_
          exact ih6 (r + 1) (by omega) (by omega)
        · refine v_iload 5 K dL_cost_29 rfl ?_
          refine v_aload_n 0 K dL_cost_31 rfl ?_
          refine v_iconst K dL_cost_32 ?_
          refine v_iload 6 K dL_cost_33 rfl ?_
          refine v_imul K dL_cost_35 ?_
          refine v_iald (c := 49) (4 * r) K isI_49 (by omega) (by omega) dL_cost_36 ?_
          refine v_aload_n 0 K dL_cost_37 rfl ?_
          refine v_iconst K dL_cost_38 ?_
          refine v_iload 6 K dL_cost_39 rfl ?_
          refine v_imul K dL_cost_41 ?_
          refine v_iconst K dL_cost_42 ?_
          refine v_iadd K dL_cost_43 ?_
          refine v_iald (c := 49) ((4 * r) + 1) K isI_49 (by omega) (by omega) dL_cost_44 ?_
          refine v_aload_n 0 K dL_cost_45 rfl ?_
          refine v_iconst K dL_cost_46 ?_
          refine v_iload 6 K dL_cost_47 rfl ?_
          refine v_imul K dL_cost_49 ?_
          refine v_iconst K dL_cost_50 ?_
          refine v_iadd K dL_cost_51 ?_
          refine v_iald (c := 49) ((4 * r) + 2) K isI_49 (by omega) (by omega) dL_cost_52 ?_
          refine v_aload_n 2 K dL_cost_53 rfl ?_
          refine v_iload_n 3 K dL_cost_54 rfl ?_
          refine v_iload 6 K dL_cost_55 rfl ?_
          refine v_callSir (As := [.ref (vAd X 50), .int (iZ (n : Int)), .int (iZ (r : Int))]) (rest := [.int (iZ (μ 49 ((4 * r) + 2))), .int (iZ (μ 49 ((4 * r) + 1))), .int (iZ (μ 49 (4 * r))), .int (iZ (sm r (lcT μ n p)))]) K 3 (c_L_load X.1.2.1 K.2.2.2.2.2.2 _ _ _ μ n r hA (by omega)) gL_cost_L_load rfl rfl rfl (by decide +kernel) ⟨(Nat.le_of_ble_eq_true rfl), (Nat.le_of_ble_eq_true rfl)⟩ rfl rfl (Nat.le_of_ble_eq_true rfl) dL_cost_57 ⟨(Nat.le_of_ble_eq_true rfl), (Nat.le_of_ble_eq_true rfl)⟩ ?_
          refine v_callSir (As := [.int (iZ (μ 49 (4 * r))), .int (iZ (μ 49 ((4 * r) + 1))), .int (iZ (μ 49 ((4 * r) + 2))), .int (iZ (lld μ n r))]) (rest := [.int (iZ (sm r (lcT μ n p)))]) K 4 (c_L_delay X.1.2.1 K.2.2.2.2.2.2 _ _ _ μ (μ 49 (4 * r)) (μ 49 ((4 * r) + 1)) (μ 49 ((4 * r) + 2)) (lld μ n r) (by omega) (by omega) (by omega) (by omega)) gL_cost_L_delay rfl rfl rfl (by decide +kernel) ⟨(Nat.le_of_ble_eq_true rfl), (Nat.le_of_ble_eq_true rfl)⟩ rfl rfl (Nat.le_of_ble_eq_true rfl) dL_cost_60 ⟨(Nat.le_of_ble_eq_true rfl), (Nat.le_of_ble_eq_true rfl)⟩ ?_
          refine v_aload_n 0 K dL_cost_63 rfl ?_
          refine v_iconst K dL_cost_64 ?_
          refine v_iload 6 K dL_cost_65 rfl ?_
          refine v_imul K dL_cost_67 ?_
          refine v_iconst K dL_cost_68 ?_
          refine v_iadd K dL_cost_69 ?_
          refine v_iald (c := 49) ((4 * r) + 3) K isI_49 (by omega) (by omega) dL_cost_70 ?_
          refine v_aload_n 2 K dL_cost_71 rfl ?_
          refine v_iconst K dL_cost_72 ?_
          refine v_iload 4 K dL_cost_73 rfl ?_
          refine v_imul K dL_cost_75 ?_
          refine v_iconst K dL_cost_76 ?_
          refine v_iadd K dL_cost_77 ?_
          refine v_iald (c := 50) ((4 * p) + 1) K isI_50 (by omega) (by omega) dL_cost_78 ?_
          refine v_imul K dL_cost_79 ?_
          refine v_iadd K dL_cost_80 ?_
          refine v_iadd K dL_cost_81 ?_
          refine v_istore [(5, .int (iZ ((sm r (lcT μ n p)) + ((ldq (μ 49 (4 * r)) (μ 49 ((4 * r) + 1)) (μ 49 ((4 * r) + 2)) (lld μ n r)) + ((μ 49 ((4 * r) + 3)) * (μ 50 ((4 * p) + 1))))))), (0, .ref (vAd X 49)), (1, .int (iZ (s : Int))), (2, .ref (vAd X 50)), (3, .int (iZ (n : Int))), (4, .int (iZ (p : Int))), (6, .int (iZ (r : Int)))] K dL_cost_82 (by decide) rfl ?_
          refine v_iinc 6 [(6, .int (iZ ((r : Int) + 1))), (5, .int (iZ ((sm r (lcT μ n p)) + ((ldq (μ 49 (4 * r)) (μ 49 ((4 * r) + 1)) (μ 49 ((4 * r) + 2)) (lld μ n r)) + ((μ 49 ((4 * r) + 3)) * (μ 50 ((4 * p) + 1))))))), (0, .ref (vAd X 49)), (1, .int (iZ (s : Int))), (2, .ref (vAd X 50)), (3, .int (iZ (n : Int))), (4, .int (iZ (p : Int)))] K dL_cost_84 rfl (by decide) rfl ?_
          refine v_goto 6 K dL_cost_87 (by decide) ?_
          refine v_sub [2, 3, 4, 5, 6, 1, 0] rfl ?_
          refine v_eq (lv1 := [(0, .ref (vAd X 49)), (1, .int (iZ (s : Int))), (2, .ref (vAd X 50)), (3, .int (iZ (n : Int))), (4, .int (iZ (p : Int))), (5, .int (iZ (sm (r + 1) (lcT μ n p)))), (6, .int (iZ (((r + 1) : Nat) : Int)))]) (st1 := []) (v_c0 (v_c0 (v_c0 (v_c0 (v_c0 (v_cI (by first | rw [sm_s, lcT_y (by omega)] | (rw [sm_s, lcT_n (by omega)]; omega)) (v_cI (by first | rfl | omega) rfl))))))) rfl ?_
          exact ih6 (r + 1) (by omega) (by omega)
  refine v_sub [2, 3, 4, 5, 6, 1, 0] rfl ?_
  refine v_eq (lv1 := [(0, .ref (vAd X 49)), (1, .int (iZ (s : Int))), (2, .ref (vAd X 50)), (3, .int (iZ (n : Int))), (4, .int (iZ (p : Int))), (5, .int (iZ (sm 0 (lcT μ n p)))), (6, .int (iZ ((0 : Nat) : Int)))]) (st1 := []) (v_c0 (v_c0 (v_c0 (v_c0 (v_c0 (v_cI rfl (v_cI (by first | rfl | omega) rfl))))))) rfl ?_
  exact L6 (9 - 0 + 1) 0 (by omega) (by omega)
theorem c_L_cost (l : Launch) (hl : l.stackTraces = false) (D : va_G) (cy : Nat → ClassId) (ad : Nat → Nat) (μ : Mem) (s : Nat) (n : Nat) (p : Nat) (hR : ROK μ s) (hA : POK μ n) (hp : p < n) : cI l yL_cost wsL_cost ({ frames := 1, cells := 0, slots := 0, locals := 24 } : Room) D cy ad μ [.ref (ad 49), .int (iZ (s : Int)), .ref (ad 50), .int (iZ (n : Int)), .int (iZ (p : Int))] (fun (z : Int) (ν : Mem) => z = lcs μ s n p ∧ ν = μ) :=
  m_int (av := (fun ad => [.ref (ad 49), .int (iZ (s : Int)), .ref (ad 50), .int (iZ (n : Int)), .int (iZ (p : Int))])) hl (by decide) rfl rfl (Nat.le_of_ble_eq_true rfl) (fun _ _ _ => rfl) (fun X K hret => b_L_cost s n p hR hA hp K hret)
theorem dL_costBy_0 : decode cL_costBy 0 = .ok (.aload_n 2, 1) := by decide +kernel
theorem dL_costBy_1 : decode cL_costBy 1 = .ok (.iconst 4, 1) := by decide +kernel
theorem dL_costBy_2 : decode cL_costBy 2 = .ok (.iload 4, 2) := by decide +kernel
theorem dL_costBy_4 : decode cL_costBy 4 = .ok (.imul, 1) := by decide +kernel
theorem dL_costBy_5 : decode cL_costBy 5 = .ok (.iconst 2, 1) := by decide +kernel
theorem dL_costBy_6 : decode cL_costBy 6 = .ok (.iadd, 1) := by decide +kernel
theorem dL_costBy_7 : decode cL_costBy 7 = .ok (.iaload, 1) := by decide +kernel
theorem dL_costBy_8 : decode cL_costBy 8 = .ok (.istore 6, 2) := by decide +kernel
theorem dL_costBy_10 : decode cL_costBy 10 = .ok (.aload_n 2, 1) := by decide +kernel
theorem dL_costBy_11 : decode cL_costBy 11 = .ok (.iconst 4, 1) := by decide +kernel
theorem dL_costBy_12 : decode cL_costBy 12 = .ok (.iload 4, 2) := by decide +kernel
theorem dL_costBy_14 : decode cL_costBy 14 = .ok (.imul, 1) := by decide +kernel
theorem dL_costBy_15 : decode cL_costBy 15 = .ok (.iconst 2, 1) := by decide +kernel
theorem dL_costBy_16 : decode cL_costBy 16 = .ok (.iadd, 1) := by decide +kernel
theorem dL_costBy_17 : decode cL_costBy 17 = .ok (.iload 5, 2) := by decide +kernel
theorem dL_costBy_19 : decode cL_costBy 19 = .ok (.iastore, 1) := by decide +kernel
theorem dL_costBy_20 : decode cL_costBy 20 = .ok (.aload_n 0, 1) := by decide +kernel
theorem dL_costBy_21 : decode cL_costBy 21 = .ok (.iload_n 1, 1) := by decide +kernel
theorem dL_costBy_22 : decode cL_costBy 22 = .ok (.aload_n 2, 1) := by decide +kernel
theorem dL_costBy_23 : decode cL_costBy 23 = .ok (.iload_n 3, 1) := by decide +kernel
theorem dL_costBy_24 : decode cL_costBy 24 = .ok (.iload 4, 2) := by decide +kernel
theorem dL_costBy_26 : decode cL_costBy 26 = .ok (.invokestatic 102, 3) := by decide +kernel
set_option maxRecDepth 20000 in
theorem ggL_costBy_L_cost : GoodIn wsL_costBy wsL_cost := goodIn_ca (goodIn_r _ [4, 5, 6, 3, 7, 8, 9, 10] (by decide +kernel) (by decide +kernel)) (goodIn_sub (fun _ h => List.mem_cons_of_mem _ (List.mem_append_right _ h)) (by decide +kernel))
set_option maxRecDepth 20000 in
theorem gL_costBy_L_cost : GoodIn wsL_costBy (va_wsS RL 102 yL_cost wsL_cost) := goodIn_app (goodIn_of _ (by decide +kernel)) ggL_costBy_L_cost
theorem dL_costBy_29 : decode cL_costBy 29 = .ok (.istore 7, 2) := by decide +kernel
theorem dL_costBy_31 : decode cL_costBy 31 = .ok (.aload_n 2, 1) := by decide +kernel
theorem dL_costBy_32 : decode cL_costBy 32 = .ok (.iconst 4, 1) := by decide +kernel
theorem dL_costBy_33 : decode cL_costBy 33 = .ok (.iload 4, 2) := by decide +kernel
theorem dL_costBy_35 : decode cL_costBy 35 = .ok (.imul, 1) := by decide +kernel
theorem dL_costBy_36 : decode cL_costBy 36 = .ok (.iconst 2, 1) := by decide +kernel
theorem dL_costBy_37 : decode cL_costBy 37 = .ok (.iadd, 1) := by decide +kernel
theorem dL_costBy_38 : decode cL_costBy 38 = .ok (.iload 6, 2) := by decide +kernel
theorem dL_costBy_40 : decode cL_costBy 40 = .ok (.iastore, 1) := by decide +kernel
theorem dL_costBy_41 : decode cL_costBy 41 = .ok (.iload 7, 2) := by decide +kernel
theorem dL_costBy_43 : decode cL_costBy 43 = .ok (.ireturn, 1) := by decide +kernel
set_option maxHeartbeats 4000000 in
set_option maxRecDepth 100000 in
theorem b_L_costBy {X : VC} {μ : Mem} (s : Nat) (n : Nat) (p : Nat) (b : Int) (hR : ROK μ s) (hA : POK μ n) (hp : p < n) (hb : 0 ≤ b ∧ b ≤ 255) (K : vK X cL_costBy 8 RL wsL_costBy ({ frames := 2, cells := 0, slots := 0, locals := 50 } : Room)) (hret : ∀ (z : Int) (ν : Mem), (fun (z : Int) (ν : Mem) => z = lcs (upM μ 50 (4 * p + 2) b) s n p ∧ ν = μ) z ν → ∀ n pc k1 k2 lv, k1 ≤ 0 → k2 ≤ 0 → decode cL_costBy pc = .ok (.ireturn, 1) → vW X n pc k1 k2 lv [.int (iZ z)] ν) : vW X 8 0 0 0 [(0, .ref (vAd X 49)), (1, .int (iZ (s : Int))), (2, .ref (vAd X 50)), (3, .int (iZ (n : Int))), (4, .int (iZ (p : Int))), (5, .int (iZ b))] [] μ := by
  have hn6 := hA.1
  have hs5 := hR.1
  refine v_aload_n 2 K dL_costBy_0 rfl ?_
  refine v_iconst K dL_costBy_1 ?_
  refine v_iload 4 K dL_costBy_2 rfl ?_
  refine v_imul K dL_costBy_4 ?_
  refine v_iconst K dL_costBy_5 ?_
  refine v_iadd K dL_costBy_6 ?_
  refine v_iald (c := 50) ((4 * p) + 2) K isI_50 (by omega) (by omega) dL_costBy_7 ?_
  refine v_istore [(6, .int (iZ (μ 50 ((4 * p) + 2)))), (0, .ref (vAd X 49)), (1, .int (iZ (s : Int))), (2, .ref (vAd X 50)), (3, .int (iZ (n : Int))), (4, .int (iZ (p : Int))), (5, .int (iZ b))] K dL_costBy_8 (by decide) rfl ?_
  refine v_aload_n 3 K dL_costBy_10 rfl ?_
  refine v_iconst K dL_costBy_11 ?_
  refine v_iload 5 K dL_costBy_12 rfl ?_
  refine v_imul K dL_costBy_14 ?_
  refine v_iconst K dL_costBy_15 ?_
  refine v_iadd K dL_costBy_16 ?_
  refine v_iload 6 K dL_costBy_17 rfl ?_
  refine v_iast (c := 50) ((4 * p) + 2) K isI_50 (by omega) (by omega) dL_costBy_19 ?_
  obtain ⟨μ1, eμ1⟩ : ∃ μ1 : Mem, μ1 = (upM μ 50 ((4 * p) + 2) b) := ⟨_, rfl⟩
  rw [← eμ1]
  have hA1 : POK μ1 n := by rw [eμ1]; exact hA.up9 hb
  have hR1 : ROK μ1 s := by rw [eμ1]; exact hR.up9 (by decide)
  refine v_aload_n 1 K dL_costBy_20 rfl ?_
  refine v_iload_n 2 K dL_costBy_21 rfl ?_
  refine v_aload_n 3 K dL_costBy_22 rfl ?_
  refine v_iload_n 4 K dL_costBy_23 rfl ?_
  refine v_iload 5 K dL_costBy_24 rfl ?_
  refine v_callSir (As := [.ref (vAd X 49), .int (iZ (s : Int)), .ref (vAd X 50), .int (iZ (n : Int)), .int (iZ (p : Int))]) (rest := []) K 5 (c_L_cost X.1.2.1 K.2.2.2.2.2.2 _ _ _ μ1 s n p hR1 hA1 hp) gL_costBy_L_cost rfl rfl rfl (by decide +kernel) ⟨(Nat.le_of_ble_eq_true rfl), (Nat.le_of_ble_eq_true rfl)⟩ rfl rfl (Nat.le_of_ble_eq_true rfl) dL_costBy_26 ⟨(Nat.le_of_ble_eq_true rfl), (Nat.le_of_ble_eq_true rfl)⟩ ?_
  refine v_istore [(7, .int (iZ (lcs μ1 s n p))), (6, .int (iZ (μ 50 ((4 * p) + 2)))), (0, .ref (vAd X 49)), (1, .int (iZ (s : Int))), (2, .ref (vAd X 50)), (3, .int (iZ (n : Int))), (4, .int (iZ (p : Int))), (5, .int (iZ b))] K dL_costBy_29 (by decide) rfl ?_
  refine v_aload_n 4 K dL_costBy_31 rfl ?_
  refine v_iconst K dL_costBy_32 ?_
  refine v_iload 6 K dL_costBy_33 rfl ?_
  refine v_imul K dL_costBy_35 ?_
  refine v_iconst K dL_costBy_36 ?_
  refine v_iadd K dL_costBy_37 ?_
  refine v_iload 1 K dL_costBy_38 rfl ?_
  refine v_iast (c := 50) ((4 * p) + 2) K isI_50 (by omega) (by omega) dL_costBy_40 ?_
  refine v_iload 0 K dL_costBy_41 rfl ?_
  exact hret _ _ ⟨(by rw [eμ1]), (by rw [eμ1]; exact upM_back)⟩ _ _ _ _ _ (Nat.le_of_ble_eq_true rfl) (Nat.le_of_ble_eq_true rfl) dL_costBy_43
theorem c_L_costBy (l : Launch) (hl : l.stackTraces = false) (D : va_G) (cy : Nat → ClassId) (ad : Nat → Nat) (μ : Mem) (s : Nat) (n : Nat) (p : Nat) (b : Int) (hR : ROK μ s) (hA : POK μ n) (hp : p < n) (hb : 0 ≤ b ∧ b ≤ 255) : cI l yL_costBy wsL_costBy ({ frames := 2, cells := 0, slots := 0, locals := 50 } : Room) D cy ad μ [.ref (ad 49), .int (iZ (s : Int)), .ref (ad 50), .int (iZ (n : Int)), .int (iZ (p : Int)), .int (iZ b)] (fun (z : Int) (ν : Mem) => z = lcs (upM μ 50 (4 * p + 2) b) s n p ∧ ν = μ) :=
  m_int (av := (fun ad => [.ref (ad 49), .int (iZ (s : Int)), .ref (ad 50), .int (iZ (n : Int)), .int (iZ (p : Int)), .int (iZ b)])) hl (by decide) rfl rfl (Nat.le_of_ble_eq_true rfl) (fun _ _ _ => rfl) (fun X K hret => b_L_costBy s n p b hR hA hp hb K hret)
theorem dL_total_0 : decode cL_total 0 = .ok (.iconst 0, 1) := by decide +kernel
theorem dL_total_1 : decode cL_total 1 = .ok (.istore 4, 2) := by decide +kernel
theorem dL_total_3 : decode cL_total 3 = .ok (.iconst 0, 1) := by decide +kernel
theorem dL_total_4 : decode cL_total 4 = .ok (.istore 5, 2) := by decide +kernel
theorem dL_total_6 : decode cL_total 6 = .ok (.iload 5, 2) := by decide +kernel
theorem dL_total_8 : decode cL_total 8 = .ok (.iload_n 1, 1) := by decide +kernel
theorem dL_total_9 : decode cL_total 9 = .ok (.if_icmp .ge 53, 3) := by decide +kernel
theorem dL_total_62 : decode cL_total 62 = .ok (.iload 4, 2) := by decide +kernel
theorem dL_total_64 : decode cL_total 64 = .ok (.ireturn, 1) := by decide +kernel
theorem dL_total_12 : decode cL_total 12 = .ok (.aload_n 2, 1) := by decide +kernel
theorem dL_total_13 : decode cL_total 13 = .ok (.iload_n 3, 1) := by decide +kernel
theorem dL_total_14 : decode cL_total 14 = .ok (.iload 5, 2) := by decide +kernel
theorem dL_total_16 : decode cL_total 16 = .ok (.invokestatic 94, 3) := by decide +kernel
set_option maxRecDepth 20000 in
theorem ggL_total_L_load : GoodIn wsL_total wsL_load := goodIn_ca (goodIn_r _ [4] (by decide +kernel) (by decide +kernel)) (goodIn_sub (fun _ h => List.mem_cons_of_mem _ (List.mem_append_right _ h)) (by decide +kernel))
set_option maxRecDepth 20000 in
theorem gL_total_L_load : GoodIn wsL_total (va_wsS RL 94 yL_load wsL_load) := goodIn_app (goodIn_of _ (by decide +kernel)) ggL_total_L_load
theorem dL_total_19 : decode cL_total 19 = .ok (.istore 6, 2) := by decide +kernel
theorem dL_total_21 : decode cL_total 21 = .ok (.iload 4, 2) := by decide +kernel
theorem dL_total_23 : decode cL_total 23 = .ok (.iload 6, 2) := by decide +kernel
theorem dL_total_25 : decode cL_total 25 = .ok (.aload_n 0, 1) := by decide +kernel
theorem dL_total_26 : decode cL_total 26 = .ok (.iconst 4, 1) := by decide +kernel
theorem dL_total_27 : decode cL_total 27 = .ok (.iload 5, 2) := by decide +kernel
theorem dL_total_29 : decode cL_total 29 = .ok (.imul, 1) := by decide +kernel
theorem dL_total_30 : decode cL_total 30 = .ok (.iaload, 1) := by decide +kernel
theorem dL_total_31 : decode cL_total 31 = .ok (.aload_n 0, 1) := by decide +kernel
theorem dL_total_32 : decode cL_total 32 = .ok (.iconst 4, 1) := by decide +kernel
theorem dL_total_33 : decode cL_total 33 = .ok (.iload 5, 2) := by decide +kernel
theorem dL_total_35 : decode cL_total 35 = .ok (.imul, 1) := by decide +kernel
theorem dL_total_36 : decode cL_total 36 = .ok (.iconst 1, 1) := by decide +kernel
theorem dL_total_37 : decode cL_total 37 = .ok (.iadd, 1) := by decide +kernel
theorem dL_total_38 : decode cL_total 38 = .ok (.iaload, 1) := by decide +kernel
theorem dL_total_39 : decode cL_total 39 = .ok (.aload_n 0, 1) := by decide +kernel
theorem dL_total_40 : decode cL_total 40 = .ok (.iconst 4, 1) := by decide +kernel
theorem dL_total_41 : decode cL_total 41 = .ok (.iload 5, 2) := by decide +kernel
theorem dL_total_43 : decode cL_total 43 = .ok (.imul, 1) := by decide +kernel
theorem dL_total_44 : decode cL_total 44 = .ok (.iconst 2, 1) := by decide +kernel
theorem dL_total_45 : decode cL_total 45 = .ok (.iadd, 1) := by decide +kernel
theorem dL_total_46 : decode cL_total 46 = .ok (.iaload, 1) := by decide +kernel
theorem dL_total_47 : decode cL_total 47 = .ok (.iload 6, 2) := by decide +kernel
theorem dL_total_49 : decode cL_total 49 = .ok (.invokestatic 98, 3) := by decide +kernel
set_option maxRecDepth 20000 in
theorem ggL_total_L_delay : GoodIn wsL_total wsL_delay := goodIn_r _ [7] (by decide +kernel) (by decide +kernel)
set_option maxRecDepth 20000 in
theorem gL_total_L_delay : GoodIn wsL_total (va_wsS RL 98 yL_delay wsL_delay) := goodIn_app (goodIn_of _ (by decide +kernel)) ggL_total_L_delay
theorem dL_total_52 : decode cL_total 52 = .ok (.imul, 1) := by decide +kernel
theorem dL_total_53 : decode cL_total 53 = .ok (.iadd, 1) := by decide +kernel
theorem dL_total_54 : decode cL_total 54 = .ok (.istore 4, 2) := by decide +kernel
theorem dL_total_56 : decode cL_total 56 = .ok (.iinc 5 1, 3) := by decide +kernel
theorem dL_total_59 : decode cL_total 59 = .ok (.goto (-53), 3) := by decide +kernel
set_option maxHeartbeats 4000000 in
set_option maxRecDepth 100000 in
theorem b_L_total {X : VC} {μ : Mem} (s : Nat) (n : Nat) (hR : ROK μ s) (hA : POK μ n) (K : vK X cL_total 7 RL wsL_total ({ frames := 1, cells := 0, slots := 0, locals := 24 } : Room)) (hret : ∀ (z : Int) (ν : Mem), (fun (z : Int) (ν : Mem) => z = ltt μ s n ∧ ν = μ) z ν → ∀ n pc k1 k2 lv, k1 ≤ 0 → k2 ≤ 0 → decode cL_total pc = .ok (.ireturn, 1) → vW X n pc k1 k2 lv [.int (iZ z)] ν) : vW X 7 0 0 0 [(0, .ref (vAd X 49)), (1, .int (iZ (s : Int))), (2, .ref (vAd X 50)), (3, .int (iZ (n : Int)))] [] μ := by
  have hn6 := hA.1
  have hs5 := hR.1
  refine v_iconst K dL_total_0 ?_
  refine v_istore [(4, .int (iZ 0)), (0, .ref (vAd X 49)), (1, .int (iZ (s : Int))), (2, .ref (vAd X 50)), (3, .int (iZ (n : Int)))] K dL_total_1 (by decide) rfl ?_
  refine v_iconst K dL_total_3 ?_
  refine v_istore [(5, .int (iZ 0)), (4, .int (iZ 0)), (0, .ref (vAd X 49)), (1, .int (iZ (s : Int))), (2, .ref (vAd X 50)), (3, .int (iZ (n : Int)))] K dL_total_4 (by decide) rfl ?_
  have L6 : ∀ (fuel : Nat) (r : Nat) (hm : 9 - r < fuel) (hr : r ≤ s), vW X 7 6 0 0 [(0, .ref (vAd X 49)), (1, .int (iZ (s : Int))), (2, .ref (vAd X 50)), (3, .int (iZ (n : Int))), (4, .int (iZ (sm r (ltT μ n)))), (5, .int (iZ (r : Int)))] [] μ := by
    intro fuel
    induction fuel with
    | zero => intro r hm; exact absurd hm (Nat.not_lt_zero _)
    | succ fuel ih6 =>
      intro r hm hr
      refine v_iload 5 K dL_total_6 rfl ?_
      refine v_iload_n 1 K dL_total_8 rfl ?_
      refine v_icmp_ge 62 K dL_total_9 (by decide) (by omega) (by omega) (fun c9 => ?_) (fun c9 => ?_)
      · refine v_iload 4 K dL_total_62 rfl ?_
        exact hret _ _ ⟨(by rw [show s = r by omega]; rfl), rfl⟩ _ _ _ _ _ (Nat.le_of_ble_eq_true rfl) (Nat.le_of_ble_eq_true rfl) dL_total_64
      · have hr4 := hR.2 r (by omega)
        have hl := lld_rng hA r
        refine v_aload_n 2 K dL_total_12 rfl ?_
        refine v_iload_n 3 K dL_total_13 rfl ?_
        refine v_iload 5 K dL_total_14 rfl ?_
        refine v_callSir (As := [.ref (vAd X 50), .int (iZ (n : Int)), .int (iZ (r : Int))]) (rest := []) K 3 (c_L_load X.1.2.1 K.2.2.2.2.2.2 _ _ _ μ n r hA (by omega)) gL_total_L_load rfl rfl rfl (by decide +kernel) ⟨(Nat.le_of_ble_eq_true rfl), (Nat.le_of_ble_eq_true rfl)⟩ rfl rfl (Nat.le_of_ble_eq_true rfl) dL_total_16 ⟨(Nat.le_of_ble_eq_true rfl), (Nat.le_of_ble_eq_true rfl)⟩ ?_
        refine v_istore [(6, .int (iZ (lld μ n r))), (0, .ref (vAd X 49)), (1, .int (iZ (s : Int))), (2, .ref (vAd X 50)), (3, .int (iZ (n : Int))), (4, .int (iZ (sm r (ltT μ n)))), (5, .int (iZ (r : Int)))] K dL_total_19 (by decide) rfl ?_
        refine v_iload 5 K dL_total_21 rfl ?_
        refine v_iload 0 K dL_total_23 rfl ?_
        refine v_aload_n 1 K dL_total_25 rfl ?_
        refine v_iconst K dL_total_26 ?_
        refine v_iload 6 K dL_total_27 rfl ?_
        refine v_imul K dL_total_29 ?_
        refine v_iald (c := 49) (4 * r) K isI_49 (by omega) (by omega) dL_total_30 ?_
        refine v_aload_n 1 K dL_total_31 rfl ?_
        refine v_iconst K dL_total_32 ?_
        refine v_iload 6 K dL_total_33 rfl ?_
        refine v_imul K dL_total_35 ?_
        refine v_iconst K dL_total_36 ?_
        refine v_iadd K dL_total_37 ?_
        refine v_iald (c := 49) ((4 * r) + 1) K isI_49 (by omega) (by omega) dL_total_38 ?_
        refine v_aload_n 1 K dL_total_39 rfl ?_
        refine v_iconst K dL_total_40 ?_
        refine v_iload 6 K dL_total_41 rfl ?_
        refine v_imul K dL_total_43 ?_
        refine v_iconst K dL_total_44 ?_
        refine v_iadd K dL_total_45 ?_
        refine v_iald (c := 49) ((4 * r) + 2) K isI_49 (by omega) (by omega) dL_total_46 ?_
        refine v_iload 0 K dL_total_47 rfl ?_
        refine v_callSir (As := [.int (iZ (μ 49 (4 * r))), .int (iZ (μ 49 ((4 * r) + 1))), .int (iZ (μ 49 ((4 * r) + 2))), .int (iZ (lld μ n r))]) (rest := [.int (iZ (lld μ n r)), .int (iZ (sm r (ltT μ n)))]) K 4 (c_L_delay X.1.2.1 K.2.2.2.2.2.2 _ _ _ μ (μ 49 (4 * r)) (μ 49 ((4 * r) + 1)) (μ 49 ((4 * r) + 2)) (lld μ n r) (by omega) (by omega) (by omega) (by omega)) gL_total_L_delay rfl rfl rfl (by decide +kernel) ⟨(Nat.le_of_ble_eq_true rfl), (Nat.le_of_ble_eq_true rfl)⟩ rfl rfl (Nat.le_of_ble_eq_true rfl) dL_total_49 ⟨(Nat.le_of_ble_eq_true rfl), (Nat.le_of_ble_eq_true rfl)⟩ ?_
        refine v_imul K dL_total_52 ?_
        refine v_iadd K dL_total_53 ?_
        refine v_istore [(4, .int (iZ ((sm r (ltT μ n)) + ((lld μ n r) * (ldq (μ 49 (4 * r)) (μ 49 ((4 * r) + 1)) (μ 49 ((4 * r) + 2)) (lld μ n r)))))), (6, .int (iZ (lld μ n r))), (0, .ref (vAd X 49)), (1, .int (iZ (s : Int))), (2, .ref (vAd X 50)), (3, .int (iZ (n : Int))), (5, .int (iZ (r : Int)))] K dL_total_54 (by decide) rfl ?_
        refine v_iinc 6 [(5, .int (iZ ((r : Int) + 1))), (4, .int (iZ ((sm r (ltT μ n)) + ((lld μ n r) * (ldq (μ 49 (4 * r)) (μ 49 ((4 * r) + 1)) (μ 49 ((4 * r) + 2)) (lld μ n r)))))), (6, .int (iZ (lld μ n r))), (0, .ref (vAd X 49)), (1, .int (iZ (s : Int))), (2, .ref (vAd X 50)), (3, .int (iZ (n : Int)))] K dL_total_56 rfl (by decide) rfl ?_
        refine v_goto 6 K dL_total_59 (by decide) ?_
        refine v_sub [3, 4, 5, 6, 1, 0] rfl ?_
        refine v_eq (lv1 := [(0, .ref (vAd X 49)), (1, .int (iZ (s : Int))), (2, .ref (vAd X 50)), (3, .int (iZ (n : Int))), (4, .int (iZ (sm (r + 1) (ltT μ n)))), (5, .int (iZ (((r + 1) : Nat) : Int)))]) (st1 := []) (v_c0 (v_c0 (v_c0 (v_c0 (v_cI rfl (v_cI (by first | rfl | omega) rfl)))))) rfl ?_
        exact ih6 (r + 1) (by omega) (by omega)
  refine v_sub [2, 3, 4, 5, 1, 0] rfl ?_
  refine v_eq (lv1 := [(0, .ref (vAd X 49)), (1, .int (iZ (s : Int))), (2, .ref (vAd X 50)), (3, .int (iZ (n : Int))), (4, .int (iZ (sm 0 (ltT μ n)))), (5, .int (iZ ((0 : Nat) : Int)))]) (st1 := []) (v_c0 (v_c0 (v_c0 (v_c0 (v_cI rfl (v_cI (by first | rfl | omega) rfl)))))) rfl ?_
  exact L6 (9 - 0 + 1) 0 (by omega) (by omega)
theorem c_L_total (l : Launch) (hl : l.stackTraces = false) (D : va_G) (cy : Nat → ClassId) (ad : Nat → Nat) (μ : Mem) (s : Nat) (n : Nat) (hR : ROK μ s) (hA : POK μ n) : cI l yL_total wsL_total ({ frames := 1, cells := 0, slots := 0, locals := 24 } : Room) D cy ad μ [.ref (ad 49), .int (iZ (s : Int)), .ref (ad 50), .int (iZ (n : Int))] (fun (z : Int) (ν : Mem) => z = ltt μ s n ∧ ν = μ) :=
  m_int (av := (fun ad => [.ref (ad 49), .int (iZ (s : Int)), .ref (ad 50), .int (iZ (n : Int))])) hl (by decide) rfl rfl (Nat.le_of_ble_eq_true rfl) (fun _ _ _ => rfl) (fun X K hret => b_L_total s n hR hA K hret)
theorem dL_addResource_0 : decode cL_addResource 0 = .ok (.aload_n 0, 1) := by decide +kernel
theorem dL_addResource_1 : decode cL_addResource 1 = .ok (.iload_n 1, 1) := by decide +kernel
theorem dL_addResource_2 : decode cL_addResource 2 = .ok (.iload_n 2, 1) := by decide +kernel
theorem dL_addResource_3 : decode cL_addResource 3 = .ok (.iload_n 3, 1) := by decide +kernel
theorem dL_addResource_4 : decode cL_addResource 4 = .ok (.invokevirtual 9, 3) := by decide +kernel
set_option maxRecDepth 20000 in
theorem ggL_addResource_X7_addResource : GoodIn wsL_addResource wsX7_addResource := goodIn_ca (goodIn_ca (goodIn_ca (goodIn_r _ [9, 10, 11, 12, 13, 8, 14, 15, 16, 17, 18, 19, 20, 21, 22, 23, 24, 25, 26, 27, 28, 29, 30, 31, 32, 33, 34, 35, 36, 37, 38, 39, 40, 41, 42, 43, 44, 45, 46, 47, 48, 49, 50, 51, 52, 53, 54, 55, 56, 57, 58, 59, 60, 61, 62, 63, 64, 65, 66, 67, 68] (by decide +kernel) (by decide +kernel)) (goodIn_sub (fun _ h => List.mem_cons_of_mem _ (List.mem_append_left _ (List.mem_append_left _ (List.mem_append_right _ h)))) (by decide +kernel))) (goodIn_sub (fun _ h => List.mem_cons_of_mem _ (List.mem_append_left _ (List.mem_append_right _ h))) (by decide +kernel))) (goodIn_sub (fun _ h => List.mem_cons_of_mem _ (List.mem_append_right _ h)) (by decide +kernel))
set_option maxRecDepth 20000 in
theorem gL_addResource_X7_addResource : GoodIn wsL_addResource (wsV RL 9 RX7 yX7_addResource wsX7_addResource) := goodIn_app (goodIn_of _ (by decide +kernel)) ggL_addResource_X7_addResource
theorem dL_addResource_7 : decode cL_addResource 7 = .ok (.ireturn, 1) := by decide +kernel
set_option maxHeartbeats 4000000 in
set_option maxRecDepth 100000 in
theorem b_L_addResource {X : VC} {μ : Mem} (k : Int) (a : Int) (b : Int) (hk : k = 99 ∨ k = 108 ∨ k = 113 ∨ k = 115) (ha : 0 ≤ a ∧ a ≤ 20) (hb : 0 ≤ b ∧ b ≤ 999) (hrc : 0 ≤ μ 1 2 ∧ μ 1 2 < 8) (K : vK X cL_addResource 5 RL wsL_addResource ({ frames := 4, cells := 0, slots := 0, locals := 89 } : Room)) (htb : X.2.2.1.2.1.exceptionTable.toList = [(0, 7, 8, 15), (0, 7, 13, 18)].map (fun x : Nat × Nat × Nat × Nat => (⟨x.1, x.2.1, x.2.2.1, x.2.2.2⟩ : ExceptionTableEntry))) (hret : ∀ (z : Int) (ν : Mem), (fun (z : Int) (ν : Mem) => z = μ 1 2 ∧ RPut μ ν (μ 1 2).toNat k a b) z ν → ∀ n pc k1 k2 lv, k1 ≤ 0 → k2 ≤ 0 → decode cL_addResource pc = .ok (.ireturn, 1) → vW X n pc k1 k2 lv [.int (iZ z)] ν) : vW X 5 0 0 0 [(0, .ref (vAd X 0)), (1, .int (iZ k)), (2, .int (iZ a)), (3, .int (iZ b))] [] μ := by
  refine v_aload_n 0 K dL_addResource_0 rfl ?_
  refine v_iload_n 1 K dL_addResource_1 rfl ?_
  refine v_iload_n 2 K dL_addResource_2 rfl ?_
  refine v_iload_n 3 K dL_addResource_3 rfl ?_
  refine v_callVi (c := 0) (As := [.int (iZ k), .int (iZ a), .int (iZ b)]) (rest := []) K isO_SJ rfl 3 (c_X7_addResource X.1.2.1 K.2.2.2.2.2.2 _ _ _ μ k a b hk ha hb hrc) gL_addResource_X7_addResource rfl rfl rfl (by decide +kernel) ⟨(Nat.le_of_ble_eq_true rfl), (Nat.le_of_ble_eq_true rfl)⟩ rfl rfl (Nat.le_of_ble_eq_true rfl) dL_addResource_4 ⟨(Nat.le_of_ble_eq_true rfl), (Nat.le_of_ble_eq_true rfl)⟩ (fun z4 ν q4 => ?_)
  exact hret _ _ q4 _ _ _ _ _ (Nat.le_of_ble_eq_true rfl) (Nat.le_of_ble_eq_true rfl) dL_addResource_7
theorem c_L_addResource (l : Launch) (hl : l.stackTraces = false) (D : va_G) (cy : Nat → ClassId) (ad : Nat → Nat) (μ : Mem) (k : Int) (a : Int) (b : Int) (hk : k = 99 ∨ k = 108 ∨ k = 113 ∨ k = 115) (ha : 0 ≤ a ∧ a ≤ 20) (hb : 0 ≤ b ∧ b ≤ 999) (hrc : 0 ≤ μ 1 2 ∧ μ 1 2 < 8) : cI l yL_addResource wsL_addResource ({ frames := 4, cells := 0, slots := 0, locals := 89 } : Room) D cy ad μ [.ref (ad 0), .int (iZ k), .int (iZ a), .int (iZ b)] (fun (z : Int) (ν : Mem) => z = μ 1 2 ∧ RPut μ ν (μ 1 2).toNat k a b) :=
  m_intH (av := (fun ad => [.ref (ad 0), .int (iZ k), .int (iZ a), .int (iZ b)])) hl (by decide) rfl rfl (Nat.le_of_ble_eq_true rfl) (fun _ _ _ => rfl) (fun X K htb hret => b_L_addResource k a b hk ha hb hrc K htb hret)
theorem dL_addResource_8 : decode cL_addResource 8 = .ok (.astore 4, 2) := by decide +kernel
theorem dL_addResource_10 : decode cL_addResource 10 = .ok (.ldc 17, 2) := by decide +kernel
theorem dL_addResource_12 : decode cL_addResource 12 = .ok (.ireturn, 1) := by decide +kernel
set_option maxHeartbeats 4000000 in
set_option maxRecDepth 100000 in
theorem b_L_addResourceT {X : VC} {μ : Mem} (k : Int) (a : Int) (b : Int) (hk0 : 0 ≤ k ∧ k ≤ 65535) (hk : k ≠ 99 ∧ k ≠ 108 ∧ k ≠ 113 ∧ k ≠ 115) (K : vK X cL_addResource 5 RL wsL_addResource ({ frames := 8, cells := 1, slots := 6, locals := 128 } : Room)) (htb : X.2.2.1.2.1.exceptionTable.toList = [(0, 7, 8, 15), (0, 7, 13, 18)].map (fun x : Nat × Nat × Nat × Nat => (⟨x.1, x.2.1, x.2.2.1, x.2.2.2⟩ : ExceptionTableEntry))) (hret : ∀ (z : Int) (ν : Mem), (fun (z : Int) (ν : Mem) => z = (-900001) ∧ ν = μ) z ν → ∀ n pc k1 k2 lv, k1 ≤ 1 → k2 ≤ 6 → decode cL_addResource pc = .ok (.ireturn, 1) → vW X n pc k1 k2 lv [.int (iZ z)] ν) : vW X 5 0 0 0 [(0, .ref (vAd X 0)), (1, .int (iZ k)), (2, .int (iZ a)), (3, .int (iZ b))] [] μ := by
  refine v_aload_n 0 K dL_addResource_0 rfl ?_
  refine v_iload_n 1 K dL_addResource_1 rfl ?_
  refine v_iload_n 2 K dL_addResource_2 rfl ?_
  refine v_iload_n 3 K dL_addResource_3 rfl ?_
  refine v_callVCi (c := 0) (As := [.int (iZ k), .int (iZ a), .int (iZ b)]) (rest := []) (E := "java/lang/IllegalArgumentException") (name := "java/lang/IllegalArgumentException") [] (⟨0, 7, 8, 15⟩ : ExceptionTableEntry) [(⟨0, 7, 13, 18⟩ : ExceptionTableEntry)] htb (fun _ h => absurd h List.not_mem_nil) rfl (by decide) (List.mem_cons_of_mem _ (List.mem_append_left _ (List.mem_append_left _ (List.mem_append_left _ (List.mem_append_left _ (List.mem_append_left _ (List.mem_append_left _ (List.mem_append_left _ (List.mem_of_getElem? (i := 0) rfl))))))))) ⟨rfl, by decide +kernel⟩ K isO_SJ rfl 3 (c_X7_addResourceT X.1.2.1 K.2.2.2.2.2.2 _ _ _ μ k a b hk0 hk) gL_addResource_X7_addResource rfl rfl rfl (by decide +kernel) ⟨(Nat.le_of_ble_eq_true rfl), (Nat.le_of_ble_eq_true rfl)⟩ rfl rfl (Nat.le_of_ble_eq_true rfl) dL_addResource_4 ⟨(Nat.le_of_ble_eq_true rfl), (Nat.le_of_ble_eq_true rfl)⟩ (fun q9 => ?_)
  refine v_astore [(4, .ref q9), (0, .ref (vAd X 0)), (1, .int (iZ k)), (2, .int (iZ a)), (3, .int (iZ b))] K dL_addResource_8 (by decide) rfl ?_
  refine v_ldc (v := (-900001)) (n := (-900001)) K (List.mem_cons_of_mem _ (List.mem_append_left _ (List.mem_append_left _ (List.mem_append_left _ (List.mem_append_left _ (List.mem_append_left _ (List.mem_append_left _ (List.mem_append_left _ (List.mem_of_getElem? (i := 2) rfl))))))))) dL_addResource_10 (by decide) ?_
  exact hret _ _ ⟨rfl, rfl⟩ _ _ _ _ _ (Nat.le_of_ble_eq_true rfl) (Nat.le_of_ble_eq_true rfl) dL_addResource_12
theorem c_L_addResourceT (l : Launch) (hl : l.stackTraces = false) (D : va_G) (cy : Nat → ClassId) (ad : Nat → Nat) (μ : Mem) (k : Int) (a : Int) (b : Int) (hk0 : 0 ≤ k ∧ k ≤ 65535) (hk : k ≠ 99 ∧ k ≠ 108 ∧ k ≠ 113 ∧ k ≠ 115) : cI l yL_addResource wsL_addResource ({ frames := 8, cells := 1, slots := 6, locals := 128 } : Room) D cy ad μ [.ref (ad 0), .int (iZ k), .int (iZ a), .int (iZ b)] (fun (z : Int) (ν : Mem) => z = (-900001) ∧ ν = μ) :=
  m_intH (av := (fun ad => [.ref (ad 0), .int (iZ k), .int (iZ a), .int (iZ b)])) hl (by decide) rfl rfl (Nat.le_of_ble_eq_true rfl) (fun _ _ _ => rfl) (fun X K htb hret => b_L_addResourceT k a b hk0 hk K htb hret)
set_option maxHeartbeats 4000000 in
set_option maxRecDepth 100000 in
theorem b_L_addResourceT2 {X : VC} {μ : Mem} (a : Int) (b : Int) (ha : 20 < a ∧ a ≤ 1000) (K : vK X cL_addResource 5 RL wsL_addResource ({ frames := 9, cells := 1, slots := 6, locals := 151 } : Room)) (htb : X.2.2.1.2.1.exceptionTable.toList = [(0, 7, 8, 15), (0, 7, 13, 18)].map (fun x : Nat × Nat × Nat × Nat => (⟨x.1, x.2.1, x.2.2.1, x.2.2.2⟩ : ExceptionTableEntry))) (hret : ∀ (z : Int) (ν : Mem), (fun (z : Int) (ν : Mem) => z = (-900001) ∧ ν = μ) z ν → ∀ n pc k1 k2 lv, k1 ≤ 1 → k2 ≤ 6 → decode cL_addResource pc = .ok (.ireturn, 1) → vW X n pc k1 k2 lv [.int (iZ z)] ν) : vW X 5 0 0 0 [(0, .ref (vAd X 0)), (1, .int (iZ 99)), (2, .int (iZ a)), (3, .int (iZ b))] [] μ := by
  refine v_aload_n 0 K dL_addResource_0 rfl ?_
  refine v_iload_n 1 K dL_addResource_1 rfl ?_
  refine v_iload_n 2 K dL_addResource_2 rfl ?_
  refine v_iload_n 3 K dL_addResource_3 rfl ?_
  refine v_callVCi (c := 0) (As := [.int (iZ 99), .int (iZ a), .int (iZ b)]) (rest := []) (E := "java/lang/IllegalArgumentException") (name := "java/lang/IllegalArgumentException") [] (⟨0, 7, 8, 15⟩ : ExceptionTableEntry) [(⟨0, 7, 13, 18⟩ : ExceptionTableEntry)] htb (fun _ h => absurd h List.not_mem_nil) rfl (by decide) (List.mem_cons_of_mem _ (List.mem_append_left _ (List.mem_append_left _ (List.mem_append_left _ (List.mem_append_left _ (List.mem_append_left _ (List.mem_append_left _ (List.mem_append_left _ (List.mem_of_getElem? (i := 0) rfl))))))))) ⟨rfl, by decide +kernel⟩ K isO_SJ rfl 3 (c_X7_addResourceT2 X.1.2.1 K.2.2.2.2.2.2 _ _ _ μ a b ha) gL_addResource_X7_addResource rfl rfl rfl (by decide +kernel) ⟨(Nat.le_of_ble_eq_true rfl), (Nat.le_of_ble_eq_true rfl)⟩ rfl rfl (Nat.le_of_ble_eq_true rfl) dL_addResource_4 ⟨(Nat.le_of_ble_eq_true rfl), (Nat.le_of_ble_eq_true rfl)⟩ (fun q9 => ?_)
  refine v_astore [(4, .ref q9), (0, .ref (vAd X 0)), (1, .int (iZ 99)), (2, .int (iZ a)), (3, .int (iZ b))] K dL_addResource_8 (by decide) rfl ?_
  refine v_ldc (v := (-900001)) (n := (-900001)) K (List.mem_cons_of_mem _ (List.mem_append_left _ (List.mem_append_left _ (List.mem_append_left _ (List.mem_append_left _ (List.mem_append_left _ (List.mem_append_left _ (List.mem_append_left _ (List.mem_of_getElem? (i := 2) rfl))))))))) dL_addResource_10 (by decide) ?_
  exact hret _ _ ⟨rfl, rfl⟩ _ _ _ _ _ (Nat.le_of_ble_eq_true rfl) (Nat.le_of_ble_eq_true rfl) dL_addResource_12
theorem c_L_addResourceT2 (l : Launch) (hl : l.stackTraces = false) (D : va_G) (cy : Nat → ClassId) (ad : Nat → Nat) (μ : Mem) (a : Int) (b : Int) (ha : 20 < a ∧ a ≤ 1000) : cI l yL_addResource wsL_addResource ({ frames := 9, cells := 1, slots := 6, locals := 151 } : Room) D cy ad μ [.ref (ad 0), .int (iZ 99), .int (iZ a), .int (iZ b)] (fun (z : Int) (ν : Mem) => z = (-900001) ∧ ν = μ) :=
  m_intH (av := (fun ad => [.ref (ad 0), .int (iZ 99), .int (iZ a), .int (iZ b)])) hl (by decide) rfl rfl (Nat.le_of_ble_eq_true rfl) (fun _ _ _ => rfl) (fun X K htb hret => b_L_addResourceT2 a b ha K htb hret)
theorem dL_addPlayer_0 : decode cL_addPlayer 0 = .ok (.aload_n 0, 1) := by decide +kernel
theorem dL_addPlayer_1 : decode cL_addPlayer 1 = .ok (.iload_n 1, 1) := by decide +kernel
theorem dL_addPlayer_2 : decode cL_addPlayer 2 = .ok (.iload_n 2, 1) := by decide +kernel
theorem dL_addPlayer_3 : decode cL_addPlayer 3 = .ok (.invokevirtual 21, 3) := by decide +kernel
set_option maxRecDepth 20000 in
theorem ggL_addPlayer_X7_addPlayer : GoodIn wsL_addPlayer wsX7_addPlayer := goodIn_ca (goodIn_ca (goodIn_r _ [9, 10, 11, 12, 13, 8, 14, 15, 16, 17, 18, 19, 20, 21, 22, 23, 24, 25, 26, 27, 28, 29, 30, 31, 32, 33, 34, 35, 36, 37, 38, 39, 40, 41, 42, 43, 44, 45, 46, 47, 48, 49, 50, 51, 52, 53] (by decide +kernel) (by decide +kernel)) (goodIn_sub (fun _ h => List.mem_cons_of_mem _ (List.mem_append_left _ (List.mem_append_right _ h))) (by decide +kernel))) (goodIn_sub (fun _ h => List.mem_cons_of_mem _ (List.mem_append_right _ h)) (by decide +kernel))
set_option maxRecDepth 20000 in
theorem gL_addPlayer_X7_addPlayer : GoodIn wsL_addPlayer (wsV RL 21 RX7 yX7_addPlayer wsX7_addPlayer) := goodIn_app (goodIn_of _ (by decide +kernel)) ggL_addPlayer_X7_addPlayer
theorem dL_addPlayer_6 : decode cL_addPlayer 6 = .ok (.ireturn, 1) := by decide +kernel
set_option maxHeartbeats 4000000 in
set_option maxRecDepth 100000 in
theorem b_L_addPlayer {X : VC} {μ : Mem} (w : Int) (m : Int) (hw : 1 ≤ w ∧ w ≤ 3) (hm : 0 ≤ m ∧ m ≤ 9) (hpc : 0 ≤ μ 1 3 ∧ μ 1 3 < 6) (K : vK X cL_addPlayer 4 RL wsL_addPlayer ({ frames := 3, cells := 0, slots := 0, locals := 67 } : Room)) (htb : X.2.2.1.2.1.exceptionTable.toList = [(0, 6, 7, 15), (0, 6, 11, 18)].map (fun x : Nat × Nat × Nat × Nat => (⟨x.1, x.2.1, x.2.2.1, x.2.2.2⟩ : ExceptionTableEntry))) (hret : ∀ (z : Int) (ν : Mem), (fun (z : Int) (ν : Mem) => z = μ 1 3 ∧ PPut μ ν (μ 1 3).toNat w m) z ν → ∀ n pc k1 k2 lv, k1 ≤ 0 → k2 ≤ 0 → decode cL_addPlayer pc = .ok (.ireturn, 1) → vW X n pc k1 k2 lv [.int (iZ z)] ν) : vW X 4 0 0 0 [(0, .ref (vAd X 0)), (1, .int (iZ w)), (2, .int (iZ m))] [] μ := by
  refine v_aload_n 0 K dL_addPlayer_0 rfl ?_
  refine v_iload_n 1 K dL_addPlayer_1 rfl ?_
  refine v_iload_n 2 K dL_addPlayer_2 rfl ?_
  refine v_callVi (c := 0) (As := [.int (iZ w), .int (iZ m)]) (rest := []) K isO_SJ rfl 2 (c_X7_addPlayer X.1.2.1 K.2.2.2.2.2.2 _ _ _ μ w m hw hm hpc) gL_addPlayer_X7_addPlayer rfl rfl rfl (by decide +kernel) ⟨(Nat.le_of_ble_eq_true rfl), (Nat.le_of_ble_eq_true rfl)⟩ rfl rfl (Nat.le_of_ble_eq_true rfl) dL_addPlayer_3 ⟨(Nat.le_of_ble_eq_true rfl), (Nat.le_of_ble_eq_true rfl)⟩ (fun z3 ν q3 => ?_)
  exact hret _ _ q3 _ _ _ _ _ (Nat.le_of_ble_eq_true rfl) (Nat.le_of_ble_eq_true rfl) dL_addPlayer_6
theorem c_L_addPlayer (l : Launch) (hl : l.stackTraces = false) (D : va_G) (cy : Nat → ClassId) (ad : Nat → Nat) (μ : Mem) (w : Int) (m : Int) (hw : 1 ≤ w ∧ w ≤ 3) (hm : 0 ≤ m ∧ m ≤ 9) (hpc : 0 ≤ μ 1 3 ∧ μ 1 3 < 6) : cI l yL_addPlayer wsL_addPlayer ({ frames := 3, cells := 0, slots := 0, locals := 67 } : Room) D cy ad μ [.ref (ad 0), .int (iZ w), .int (iZ m)] (fun (z : Int) (ν : Mem) => z = μ 1 3 ∧ PPut μ ν (μ 1 3).toNat w m) :=
  m_intH (av := (fun ad => [.ref (ad 0), .int (iZ w), .int (iZ m)])) hl (by decide) rfl rfl (Nat.le_of_ble_eq_true rfl) (fun _ _ _ => rfl) (fun X K htb hret => b_L_addPlayer w m hw hm hpc K htb hret)
theorem dL_addPlayer_7 : decode cL_addPlayer 7 = .ok (.astore_n 3, 1) := by decide +kernel
theorem dL_addPlayer_8 : decode cL_addPlayer 8 = .ok (.ldc 17, 2) := by decide +kernel
theorem dL_addPlayer_10 : decode cL_addPlayer 10 = .ok (.ireturn, 1) := by decide +kernel
set_option maxHeartbeats 4000000 in
set_option maxRecDepth 100000 in
theorem b_L_addPlayerT {X : VC} {μ : Mem} (w : Int) (m : Int) (hw : 3 < w ∧ w ≤ 1000) (K : vK X cL_addPlayer 4 RL wsL_addPlayer ({ frames := 9, cells := 1, slots := 6, locals := 149 } : Room)) (htb : X.2.2.1.2.1.exceptionTable.toList = [(0, 6, 7, 15), (0, 6, 11, 18)].map (fun x : Nat × Nat × Nat × Nat => (⟨x.1, x.2.1, x.2.2.1, x.2.2.2⟩ : ExceptionTableEntry))) (hret : ∀ (z : Int) (ν : Mem), (fun (z : Int) (ν : Mem) => z = (-900001) ∧ ν = μ) z ν → ∀ n pc k1 k2 lv, k1 ≤ 1 → k2 ≤ 6 → decode cL_addPlayer pc = .ok (.ireturn, 1) → vW X n pc k1 k2 lv [.int (iZ z)] ν) : vW X 4 0 0 0 [(0, .ref (vAd X 0)), (1, .int (iZ w)), (2, .int (iZ m))] [] μ := by
  refine v_aload_n 0 K dL_addPlayer_0 rfl ?_
  refine v_iload_n 1 K dL_addPlayer_1 rfl ?_
  refine v_iload_n 2 K dL_addPlayer_2 rfl ?_
  refine v_callVCi (c := 0) (As := [.int (iZ w), .int (iZ m)]) (rest := []) (E := "java/lang/IllegalArgumentException") (name := "java/lang/IllegalArgumentException") [] (⟨0, 6, 7, 15⟩ : ExceptionTableEntry) [(⟨0, 6, 11, 18⟩ : ExceptionTableEntry)] htb (fun _ h => absurd h List.not_mem_nil) rfl (by decide) (List.mem_cons_of_mem _ (List.mem_append_left _ (List.mem_append_left _ (List.mem_append_left _ (List.mem_append_left _ (List.mem_append_left _ (List.mem_append_left _ (List.mem_of_getElem? (i := 0) rfl)))))))) ⟨rfl, by decide +kernel⟩ K isO_SJ rfl 2 (c_X7_addPlayerT X.1.2.1 K.2.2.2.2.2.2 _ _ _ μ w m hw) gL_addPlayer_X7_addPlayer rfl rfl rfl (by decide +kernel) ⟨(Nat.le_of_ble_eq_true rfl), (Nat.le_of_ble_eq_true rfl)⟩ rfl rfl (Nat.le_of_ble_eq_true rfl) dL_addPlayer_3 ⟨(Nat.le_of_ble_eq_true rfl), (Nat.le_of_ble_eq_true rfl)⟩ (fun q9 => ?_)
  refine v_astore_n [(3, .ref q9), (0, .ref (vAd X 0)), (1, .int (iZ w)), (2, .int (iZ m))] K dL_addPlayer_7 (by decide) rfl ?_
  refine v_ldc (v := (-900001)) (n := (-900001)) K (List.mem_cons_of_mem _ (List.mem_append_left _ (List.mem_append_left _ (List.mem_append_left _ (List.mem_append_left _ (List.mem_append_left _ (List.mem_append_left _ (List.mem_of_getElem? (i := 2) rfl)))))))) dL_addPlayer_8 (by decide) ?_
  exact hret _ _ ⟨rfl, rfl⟩ _ _ _ _ _ (Nat.le_of_ble_eq_true rfl) (Nat.le_of_ble_eq_true rfl) dL_addPlayer_10
theorem c_L_addPlayerT (l : Launch) (hl : l.stackTraces = false) (D : va_G) (cy : Nat → ClassId) (ad : Nat → Nat) (μ : Mem) (w : Int) (m : Int) (hw : 3 < w ∧ w ≤ 1000) : cI l yL_addPlayer wsL_addPlayer ({ frames := 9, cells := 1, slots := 6, locals := 149 } : Room) D cy ad μ [.ref (ad 0), .int (iZ w), .int (iZ m)] (fun (z : Int) (ν : Mem) => z = (-900001) ∧ ν = μ) :=
  m_intH (av := (fun ad => [.ref (ad 0), .int (iZ w), .int (iZ m)])) hl (by decide) rfl rfl (Nat.le_of_ble_eq_true rfl) (fun _ _ _ => rfl) (fun X K htb hret => b_L_addPlayerT w m hw K htb hret)
theorem dL_addWay_0 : decode cL_addWay 0 = .ok (.aload_n 0, 1) := by decide +kernel
theorem dL_addWay_1 : decode cL_addWay 1 = .ok (.iload_n 1, 1) := by decide +kernel
theorem dL_addWay_2 : decode cL_addWay 2 = .ok (.iload_n 2, 1) := by decide +kernel
theorem dL_addWay_3 : decode cL_addWay 3 = .ok (.invokevirtual 25, 3) := by decide +kernel
set_option maxRecDepth 20000 in
theorem ggL_addWay_X7_addWay : GoodIn wsL_addWay wsX7_addWay := goodIn_ca (goodIn_ca (goodIn_ca (goodIn_ca (goodIn_ca (goodIn_r _ [13, 14, 15, 16, 17, 18, 19, 20, 21, 22, 23, 24, 25, 26, 27, 28, 12, 29, 30, 31, 32, 33, 34, 35, 36, 37, 38, 39, 40, 41, 42, 43, 44, 45, 46, 47, 48, 49, 50, 51, 52, 53, 54, 55, 56, 57, 58, 59, 60, 61, 62, 63, 64, 65, 66, 67, 68, 69, 70, 71, 72, 73, 74, 75, 76, 77, 78, 79, 80, 81] (by decide +kernel) (by decide +kernel)) (goodIn_sub (fun _ h => List.mem_cons_of_mem _ (List.mem_append_left _ (List.mem_append_left _ (List.mem_append_left _ (List.mem_append_left _ (List.mem_append_right _ h)))))) (by decide +kernel))) (goodIn_sub (fun _ h => List.mem_cons_of_mem _ (List.mem_append_left _ (List.mem_append_left _ (List.mem_append_left _ (List.mem_append_right _ h))))) (by decide +kernel))) (goodIn_sub (fun _ h => List.mem_cons_of_mem _ (List.mem_append_left _ (List.mem_append_left _ (List.mem_append_right _ h)))) (by decide +kernel))) (goodIn_sub (fun _ h => List.mem_cons_of_mem _ (List.mem_append_left _ (List.mem_append_right _ h))) (by decide +kernel))) (goodIn_sub (fun _ h => List.mem_cons_of_mem _ (List.mem_append_right _ h)) (by decide +kernel))
set_option maxRecDepth 20000 in
theorem gL_addWay_X7_addWay : GoodIn wsL_addWay (wsV RL 25 RX7 yX7_addWay wsX7_addWay) := goodIn_app (goodIn_of _ (by decide +kernel)) ggL_addWay_X7_addWay
theorem dL_addWay_6 : decode cL_addWay 6 = .ok (.ireturn, 1) := by decide +kernel
set_option maxHeartbeats 4000000 in
set_option maxRecDepth 100000 in
theorem b_L_addWay {X : VC} {μ : Mem} (p : Nat) (b : Int) (hW : WF μ) (hB : PB μ 0) (hp : p < pcn μ) (hb : 1 ≤ b ∧ b < ((2 ^ rc μ : Nat) : Int)) (hn : μ (37 + p) 3 < 5) (hno : ∀ k : Nat, (k : Int) < μ (37 + p) 3 → μ (43 + p) k ≠ b) (K : vK X cL_addWay 4 RL wsL_addWay ({ frames := 4, cells := 0, slots := 0, locals := 95 } : Room)) (htb : X.2.2.1.2.1.exceptionTable.toList = [(0, 6, 7, 28), (0, 6, 11, 15), (0, 6, 15, 30), (0, 6, 19, 18)].map (fun x : Nat × Nat × Nat × Nat => (⟨x.1, x.2.1, x.2.2.1, x.2.2.2⟩ : ExceptionTableEntry))) (hret : ∀ (z : Int) (ν : Mem), (fun (z : Int) (ν : Mem) => z = μ (37 + p) 3 ∧ (∃ ν2, WPut μ ν2 p (μ (37 + p) 3).toNat b ∧ ((μ (37 + p) 3 = 0 ∧ TK ν2 ν 0 p 0) ∨ (μ (37 + p) 3 ≠ 0 ∧ ν = ν2)))) z ν → ∀ n pc k1 k2 lv, k1 ≤ 0 → k2 ≤ 0 → decode cL_addWay pc = .ok (.ireturn, 1) → vW X n pc k1 k2 lv [.int (iZ z)] ν) : vW X 4 0 0 0 [(0, .ref (vAd X 0)), (1, .int (iZ (p : Int))), (2, .int (iZ b))] [] μ := by
  refine v_aload_n 0 K dL_addWay_0 rfl ?_
  refine v_iload_n 1 K dL_addWay_1 rfl ?_
  refine v_iload_n 2 K dL_addWay_2 rfl ?_
  refine v_callVi (c := 0) (As := [.int (iZ (p : Int)), .int (iZ b)]) (rest := []) K isO_SJ rfl 2 (c_X7_addWay X.1.2.1 K.2.2.2.2.2.2 _ _ _ μ p b hW hB hp hb hn hno) gL_addWay_X7_addWay rfl rfl rfl (by decide +kernel) ⟨(Nat.le_of_ble_eq_true rfl), (Nat.le_of_ble_eq_true rfl)⟩ rfl rfl (Nat.le_of_ble_eq_true rfl) dL_addWay_3 ⟨(Nat.le_of_ble_eq_true rfl), (Nat.le_of_ble_eq_true rfl)⟩ (fun z3 ν q3 => ?_)
  exact hret _ _ q3 _ _ _ _ _ (Nat.le_of_ble_eq_true rfl) (Nat.le_of_ble_eq_true rfl) dL_addWay_6
theorem c_L_addWay (l : Launch) (hl : l.stackTraces = false) (D : va_G) (cy : Nat → ClassId) (ad : Nat → Nat) (μ : Mem) (p : Nat) (b : Int) (hW : WF μ) (hB : PB μ 0) (hp : p < pcn μ) (hb : 1 ≤ b ∧ b < ((2 ^ rc μ : Nat) : Int)) (hn : μ (37 + p) 3 < 5) (hno : ∀ k : Nat, (k : Int) < μ (37 + p) 3 → μ (43 + p) k ≠ b) : cI l yL_addWay wsL_addWay ({ frames := 4, cells := 0, slots := 0, locals := 95 } : Room) D cy ad μ [.ref (ad 0), .int (iZ (p : Int)), .int (iZ b)] (fun (z : Int) (ν : Mem) => z = μ (37 + p) 3 ∧ (∃ ν2, WPut μ ν2 p (μ (37 + p) 3).toNat b ∧ ((μ (37 + p) 3 = 0 ∧ TK ν2 ν 0 p 0) ∨ (μ (37 + p) 3 ≠ 0 ∧ ν = ν2)))) :=
  m_intH (av := (fun ad => [.ref (ad 0), .int (iZ (p : Int)), .int (iZ b)])) hl (by decide) rfl rfl (Nat.le_of_ble_eq_true rfl) (fun _ _ _ => rfl) (fun X K htb hret => b_L_addWay p b hW hB hp hb hn hno K htb hret)
theorem dL_addWay_11 : decode cL_addWay 11 = .ok (.astore_n 3, 1) := by decide +kernel
theorem dL_addWay_12 : decode cL_addWay 12 = .ok (.ldc 20, 2) := by decide +kernel
theorem dL_addWay_14 : decode cL_addWay 14 = .ok (.ireturn, 1) := by decide +kernel
set_option maxHeartbeats 4000000 in
set_option maxRecDepth 100000 in
theorem b_L_addWayT {X : VC} {μ : Mem} (p : Nat) (b : Int) (hW : WF μ) (hp : p < pcn μ) (hb : -2147483648 ≤ b ∧ b ≤ 2147483647) (hb1 : b < 1 ∨ ((2 ^ rc μ : Nat) : Int) ≤ b) (K : vK X cL_addWay 4 RL wsL_addWay ({ frames := 7, cells := 1, slots := 6, locals := 104 } : Room)) (htb : X.2.2.1.2.1.exceptionTable.toList = [(0, 6, 7, 28), (0, 6, 11, 15), (0, 6, 15, 30), (0, 6, 19, 18)].map (fun x : Nat × Nat × Nat × Nat => (⟨x.1, x.2.1, x.2.2.1, x.2.2.2⟩ : ExceptionTableEntry))) (hret : ∀ (z : Int) (ν : Mem), (fun (z : Int) (ν : Mem) => z = (-900002) ∧ ν = μ) z ν → ∀ n pc k1 k2 lv, k1 ≤ 1 → k2 ≤ 6 → decode cL_addWay pc = .ok (.ireturn, 1) → vW X n pc k1 k2 lv [.int (iZ z)] ν) : vW X 4 0 0 0 [(0, .ref (vAd X 0)), (1, .int (iZ (p : Int))), (2, .int (iZ b))] [] μ := by
  refine v_aload_n 0 K dL_addWay_0 rfl ?_
  refine v_iload_n 1 K dL_addWay_1 rfl ?_
  refine v_iload_n 2 K dL_addWay_2 rfl ?_
  refine v_callVCi (c := 0) (As := [.int (iZ (p : Int)), .int (iZ b)]) (rest := []) (E := "java/lang/IllegalArgumentException") (name := "java/lang/IllegalArgumentException") [(⟨0, 6, 7, 28⟩ : ExceptionTableEntry)] (⟨0, 6, 11, 15⟩ : ExceptionTableEntry) [(⟨0, 6, 15, 30⟩ : ExceptionTableEntry), (⟨0, 6, 19, 18⟩ : ExceptionTableEntry)] htb (List.forall_mem_cons.mpr ⟨Or.inr ⟨by decide, "java/lang/IndexOutOfBoundsException", K.1.2.2.2.2.1 _ (List.mem_cons_of_mem _ (List.mem_append_left _ (List.mem_append_left _ (List.mem_append_left _ (List.mem_append_left _ (List.mem_append_left _ (List.mem_append_left _ (List.mem_append_left _ (List.mem_append_left _ (List.mem_append_left _ (List.mem_append_left _ (List.mem_of_getElem? (i := 0) rfl)))))))))))), exP.nc K.2.2.2.2.2.1 "java/lang/IllegalArgumentException" "java/lang/IndexOutOfBoundsException" (by decide +kernel) (by decide +kernel) (by decide +kernel)⟩, (fun _ h => absurd h List.not_mem_nil)⟩) rfl (by decide) (List.mem_cons_of_mem _ (List.mem_append_left _ (List.mem_append_left _ (List.mem_append_left _ (List.mem_append_left _ (List.mem_append_left _ (List.mem_append_left _ (List.mem_append_left _ (List.mem_append_left _ (List.mem_append_left _ (List.mem_append_left _ (List.mem_of_getElem? (i := 1) rfl)))))))))))) ⟨rfl, by decide +kernel⟩ K isO_SJ rfl 2 (c_X7_addWayT X.1.2.1 K.2.2.2.2.2.2 _ _ _ μ p b hW hp hb hb1) gL_addWay_X7_addWay rfl rfl rfl (by decide +kernel) ⟨(Nat.le_of_ble_eq_true rfl), (Nat.le_of_ble_eq_true rfl)⟩ rfl rfl (Nat.le_of_ble_eq_true rfl) dL_addWay_3 ⟨(Nat.le_of_ble_eq_true rfl), (Nat.le_of_ble_eq_true rfl)⟩ (fun q9 => ?_)
  refine v_astore_n [(3, .ref q9), (0, .ref (vAd X 0)), (1, .int (iZ (p : Int))), (2, .int (iZ b))] K dL_addWay_11 (by decide) rfl ?_
  refine v_ldc (v := (-900002)) (n := (-900002)) K (List.mem_cons_of_mem _ (List.mem_append_left _ (List.mem_append_left _ (List.mem_append_left _ (List.mem_append_left _ (List.mem_append_left _ (List.mem_append_left _ (List.mem_append_left _ (List.mem_append_left _ (List.mem_append_left _ (List.mem_append_left _ (List.mem_of_getElem? (i := 5) rfl)))))))))))) dL_addWay_12 (by decide) ?_
  exact hret _ _ ⟨rfl, rfl⟩ _ _ _ _ _ (Nat.le_of_ble_eq_true rfl) (Nat.le_of_ble_eq_true rfl) dL_addWay_14
theorem c_L_addWayT (l : Launch) (hl : l.stackTraces = false) (D : va_G) (cy : Nat → ClassId) (ad : Nat → Nat) (μ : Mem) (p : Nat) (b : Int) (hW : WF μ) (hp : p < pcn μ) (hb : -2147483648 ≤ b ∧ b ≤ 2147483647) (hb1 : b < 1 ∨ ((2 ^ rc μ : Nat) : Int) ≤ b) : cI l yL_addWay wsL_addWay ({ frames := 7, cells := 1, slots := 6, locals := 104 } : Room) D cy ad μ [.ref (ad 0), .int (iZ (p : Int)), .int (iZ b)] (fun (z : Int) (ν : Mem) => z = (-900002) ∧ ν = μ) :=
  m_intH (av := (fun ad => [.ref (ad 0), .int (iZ (p : Int)), .int (iZ b)])) hl (by decide) rfl rfl (Nat.le_of_ble_eq_true rfl) (fun _ _ _ => rfl) (fun X K htb hret => b_L_addWayT p b hW hp hb hb1 K htb hret)
theorem dL_addWay_7 : decode cL_addWay 7 = .ok (.astore_n 3, 1) := by decide +kernel
theorem dL_addWay_8 : decode cL_addWay 8 = .ok (.ldc 17, 2) := by decide +kernel
theorem dL_addWay_10 : decode cL_addWay 10 = .ok (.ireturn, 1) := by decide +kernel
set_option maxHeartbeats 4000000 in
set_option maxRecDepth 100000 in
theorem b_L_addWayT2 {X : VC} {μ : Mem} (n : Int) (b : Int) (hpc : 0 ≤ μ 1 3 ∧ μ 1 3 ≤ 6) (h : μ 1 3 ≤ n ∧ n ≤ 1000) (K : vK X cL_addWay 4 RL wsL_addWay ({ frames := 8, cells := 1, slots := 6, locals := 125 } : Room)) (htb : X.2.2.1.2.1.exceptionTable.toList = [(0, 6, 7, 28), (0, 6, 11, 15), (0, 6, 15, 30), (0, 6, 19, 18)].map (fun x : Nat × Nat × Nat × Nat => (⟨x.1, x.2.1, x.2.2.1, x.2.2.2⟩ : ExceptionTableEntry))) (hret : ∀ (z : Int) (ν : Mem), (fun (z : Int) (ν : Mem) => z = (-900001) ∧ ν = μ) z ν → ∀ n pc k1 k2 lv, k1 ≤ 1 → k2 ≤ 6 → decode cL_addWay pc = .ok (.ireturn, 1) → vW X n pc k1 k2 lv [.int (iZ z)] ν) : vW X 4 0 0 0 [(0, .ref (vAd X 0)), (1, .int (iZ n)), (2, .int (iZ b))] [] μ := by
  refine v_aload_n 0 K dL_addWay_0 rfl ?_
  refine v_iload_n 1 K dL_addWay_1 rfl ?_
  refine v_iload_n 2 K dL_addWay_2 rfl ?_
  refine v_callVCi (c := 0) (As := [.int (iZ n), .int (iZ b)]) (rest := []) (E := "java/lang/IndexOutOfBoundsException") (name := "java/lang/IndexOutOfBoundsException") [] (⟨0, 6, 7, 28⟩ : ExceptionTableEntry) [(⟨0, 6, 11, 15⟩ : ExceptionTableEntry), (⟨0, 6, 15, 30⟩ : ExceptionTableEntry), (⟨0, 6, 19, 18⟩ : ExceptionTableEntry)] htb (fun _ h => absurd h List.not_mem_nil) rfl (by decide) (List.mem_cons_of_mem _ (List.mem_append_left _ (List.mem_append_left _ (List.mem_append_left _ (List.mem_append_left _ (List.mem_append_left _ (List.mem_append_left _ (List.mem_append_left _ (List.mem_append_left _ (List.mem_append_left _ (List.mem_append_left _ (List.mem_of_getElem? (i := 0) rfl)))))))))))) ⟨rfl, by decide +kernel⟩ K isO_SJ rfl 2 (c_X7_addWayT2 X.1.2.1 K.2.2.2.2.2.2 _ _ _ μ n b hpc h) gL_addWay_X7_addWay rfl rfl rfl (by decide +kernel) ⟨(Nat.le_of_ble_eq_true rfl), (Nat.le_of_ble_eq_true rfl)⟩ rfl rfl (Nat.le_of_ble_eq_true rfl) dL_addWay_3 ⟨(Nat.le_of_ble_eq_true rfl), (Nat.le_of_ble_eq_true rfl)⟩ (fun q9 => ?_)
  refine v_astore_n [(3, .ref q9), (0, .ref (vAd X 0)), (1, .int (iZ n)), (2, .int (iZ b))] K dL_addWay_7 (by decide) rfl ?_
  refine v_ldc (v := (-900001)) (n := (-900001)) K (List.mem_cons_of_mem _ (List.mem_append_left _ (List.mem_append_left _ (List.mem_append_left _ (List.mem_append_left _ (List.mem_append_left _ (List.mem_append_left _ (List.mem_append_left _ (List.mem_append_left _ (List.mem_append_left _ (List.mem_append_left _ (List.mem_of_getElem? (i := 4) rfl)))))))))))) dL_addWay_8 (by decide) ?_
  exact hret _ _ ⟨rfl, rfl⟩ _ _ _ _ _ (Nat.le_of_ble_eq_true rfl) (Nat.le_of_ble_eq_true rfl) dL_addWay_10
theorem c_L_addWayT2 (l : Launch) (hl : l.stackTraces = false) (D : va_G) (cy : Nat → ClassId) (ad : Nat → Nat) (μ : Mem) (n : Int) (b : Int) (hpc : 0 ≤ μ 1 3 ∧ μ 1 3 ≤ 6) (h : μ 1 3 ≤ n ∧ n ≤ 1000) : cI l yL_addWay wsL_addWay ({ frames := 8, cells := 1, slots := 6, locals := 125 } : Room) D cy ad μ [.ref (ad 0), .int (iZ n), .int (iZ b)] (fun (z : Int) (ν : Mem) => z = (-900001) ∧ ν = μ) :=
  m_intH (av := (fun ad => [.ref (ad 0), .int (iZ n), .int (iZ b)])) hl (by decide) rfl rfl (Nat.le_of_ble_eq_true rfl) (fun _ _ _ => rfl) (fun X K htb hret => b_L_addWayT2 n b hpc h K htb hret)
theorem dL_addWay_15 : decode cL_addWay 15 = .ok (.astore_n 3, 1) := by decide +kernel
theorem dL_addWay_16 : decode cL_addWay 16 = .ok (.ldc 32, 2) := by decide +kernel
theorem dL_addWay_18 : decode cL_addWay 18 = .ok (.ireturn, 1) := by decide +kernel
set_option maxHeartbeats 4000000 in
set_option maxRecDepth 100000 in
theorem b_L_addWayT3 {X : VC} {μ : Mem} (p : Nat) (b : Int) (hW : WF μ) (hc : μ (2 + 0) 2 = 0) (hp : p < pcn μ) (hb : 1 ≤ b ∧ b < ((2 ^ rc μ : Nat) : Int)) (hyes : ∃ k : Nat, (k : Int) < μ (37 + p) 3 ∧ μ (43 + p) k = b) (K : vK X cL_addWay 4 RL wsL_addWay ({ frames := 7, cells := 1, slots := 6, locals := 104 } : Room)) (htb : X.2.2.1.2.1.exceptionTable.toList = [(0, 6, 7, 28), (0, 6, 11, 15), (0, 6, 15, 30), (0, 6, 19, 18)].map (fun x : Nat × Nat × Nat × Nat => (⟨x.1, x.2.1, x.2.2.1, x.2.2.2⟩ : ExceptionTableEntry))) (hret : ∀ (z : Int) (ν : Mem), (fun (z : Int) (ν : Mem) => z = (-900003) ∧ ν = μ) z ν → ∀ n pc k1 k2 lv, k1 ≤ 1 → k2 ≤ 6 → decode cL_addWay pc = .ok (.ireturn, 1) → vW X n pc k1 k2 lv [.int (iZ z)] ν) : vW X 4 0 0 0 [(0, .ref (vAd X 0)), (1, .int (iZ (p : Int))), (2, .int (iZ b))] [] μ := by
  refine v_aload_n 0 K dL_addWay_0 rfl ?_
  refine v_iload_n 1 K dL_addWay_1 rfl ?_
  refine v_iload_n 2 K dL_addWay_2 rfl ?_
  refine v_callVCi (c := 0) (As := [.int (iZ (p : Int)), .int (iZ b)]) (rest := []) (E := "java/lang/UnsupportedOperationException") (name := "java/lang/UnsupportedOperationException") [(⟨0, 6, 7, 28⟩ : ExceptionTableEntry), (⟨0, 6, 11, 15⟩ : ExceptionTableEntry)] (⟨0, 6, 15, 30⟩ : ExceptionTableEntry) [(⟨0, 6, 19, 18⟩ : ExceptionTableEntry)] htb (List.forall_mem_cons.mpr ⟨Or.inr ⟨by decide, "java/lang/IndexOutOfBoundsException", K.1.2.2.2.2.1 _ (List.mem_cons_of_mem _ (List.mem_append_left _ (List.mem_append_left _ (List.mem_append_left _ (List.mem_append_left _ (List.mem_append_left _ (List.mem_append_left _ (List.mem_append_left _ (List.mem_append_left _ (List.mem_append_left _ (List.mem_append_left _ (List.mem_of_getElem? (i := 0) rfl)))))))))))), exP.nc K.2.2.2.2.2.1 "java/lang/UnsupportedOperationException" "java/lang/IndexOutOfBoundsException" (by decide +kernel) (by decide +kernel) (by decide +kernel)⟩, (List.forall_mem_cons.mpr ⟨Or.inr ⟨by decide, "java/lang/IllegalArgumentException", K.1.2.2.2.2.1 _ (List.mem_cons_of_mem _ (List.mem_append_left _ (List.mem_append_left _ (List.mem_append_left _ (List.mem_append_left _ (List.mem_append_left _ (List.mem_append_left _ (List.mem_append_left _ (List.mem_append_left _ (List.mem_append_left _ (List.mem_append_left _ (List.mem_of_getElem? (i := 1) rfl)))))))))))), exP.nc K.2.2.2.2.2.1 "java/lang/UnsupportedOperationException" "java/lang/IllegalArgumentException" (by decide +kernel) (by decide +kernel) (by decide +kernel)⟩, (fun _ h => absurd h List.not_mem_nil)⟩)⟩) rfl (by decide) (List.mem_cons_of_mem _ (List.mem_append_left _ (List.mem_append_left _ (List.mem_append_left _ (List.mem_append_left _ (List.mem_append_left _ (List.mem_append_left _ (List.mem_append_left _ (List.mem_append_left _ (List.mem_append_left _ (List.mem_append_left _ (List.mem_of_getElem? (i := 2) rfl)))))))))))) ⟨rfl, by decide +kernel⟩ K isO_SJ rfl 2 (c_X7_addWayT3 X.1.2.1 K.2.2.2.2.2.2 _ _ _ μ p b hW hc hp hb hyes) gL_addWay_X7_addWay rfl rfl rfl (by decide +kernel) ⟨(Nat.le_of_ble_eq_true rfl), (Nat.le_of_ble_eq_true rfl)⟩ rfl rfl (Nat.le_of_ble_eq_true rfl) dL_addWay_3 ⟨(Nat.le_of_ble_eq_true rfl), (Nat.le_of_ble_eq_true rfl)⟩ (fun q9 => ?_)
  refine v_astore_n [(3, .ref q9), (0, .ref (vAd X 0)), (1, .int (iZ (p : Int))), (2, .int (iZ b))] K dL_addWay_15 (by decide) rfl ?_
  refine v_ldc (v := (-900003)) (n := (-900003)) K (List.mem_cons_of_mem _ (List.mem_append_left _ (List.mem_append_left _ (List.mem_append_left _ (List.mem_append_left _ (List.mem_append_left _ (List.mem_append_left _ (List.mem_append_left _ (List.mem_append_left _ (List.mem_append_left _ (List.mem_append_left _ (List.mem_of_getElem? (i := 6) rfl)))))))))))) dL_addWay_16 (by decide) ?_
  exact hret _ _ ⟨rfl, rfl⟩ _ _ _ _ _ (Nat.le_of_ble_eq_true rfl) (Nat.le_of_ble_eq_true rfl) dL_addWay_18
theorem c_L_addWayT3 (l : Launch) (hl : l.stackTraces = false) (D : va_G) (cy : Nat → ClassId) (ad : Nat → Nat) (μ : Mem) (p : Nat) (b : Int) (hW : WF μ) (hc : μ (2 + 0) 2 = 0) (hp : p < pcn μ) (hb : 1 ≤ b ∧ b < ((2 ^ rc μ : Nat) : Int)) (hyes : ∃ k : Nat, (k : Int) < μ (37 + p) 3 ∧ μ (43 + p) k = b) : cI l yL_addWay wsL_addWay ({ frames := 7, cells := 1, slots := 6, locals := 104 } : Room) D cy ad μ [.ref (ad 0), .int (iZ (p : Int)), .int (iZ b)] (fun (z : Int) (ν : Mem) => z = (-900003) ∧ ν = μ) :=
  m_intH (av := (fun ad => [.ref (ad 0), .int (iZ (p : Int)), .int (iZ b)])) hl (by decide) rfl rfl (Nat.le_of_ble_eq_true rfl) (fun _ _ _ => rfl) (fun X K htb hret => b_L_addWayT3 p b hW hc hp hb hyes K htb hret)
theorem dL_countWays_0 : decode cL_countWays 0 = .ok (.aload_n 0, 1) := by decide +kernel
theorem dL_countWays_1 : decode cL_countWays 1 = .ok (.iload_n 1, 1) := by decide +kernel
theorem dL_countWays_2 : decode cL_countWays 2 = .ok (.invokevirtual 34, 3) := by decide +kernel
set_option maxRecDepth 20000 in
theorem ggL_countWays_X7_countWays : GoodIn wsL_countWays wsX7_countWays := goodIn_ca (goodIn_r _ [7, 8, 9, 10, 11, 12, 13, 6, 14, 15, 16, 17, 18, 19, 20, 21, 22, 23, 24, 25, 26, 27, 28, 29, 30, 31, 32, 33, 34] (by decide +kernel) (by decide +kernel)) (goodIn_sub (fun _ h => List.mem_cons_of_mem _ (List.mem_append_right _ h)) (by decide +kernel))
set_option maxRecDepth 20000 in
theorem gL_countWays_X7_countWays : GoodIn wsL_countWays (wsV RL 34 RX7 yX7_countWays wsX7_countWays) := goodIn_app (goodIn_of _ (by decide +kernel)) ggL_countWays_X7_countWays
theorem dL_countWays_5 : decode cL_countWays 5 = .ok (.ireturn, 1) := by decide +kernel
set_option maxHeartbeats 4000000 in
set_option maxRecDepth 100000 in
theorem b_L_countWays {X : VC} {μ : Mem} (p : Nat) (hW : WF μ) (hp : p < pcn μ) (K : vK X cL_countWays 3 RL wsL_countWays ({ frames := 2, cells := 0, slots := 0, locals := 42 } : Room)) (htb : X.2.2.1.2.1.exceptionTable.toList = [(0, 5, 6, 28)].map (fun x : Nat × Nat × Nat × Nat => (⟨x.1, x.2.1, x.2.2.1, x.2.2.2⟩ : ExceptionTableEntry))) (hret : ∀ (z : Int) (ν : Mem), (fun (z : Int) (ν : Mem) => z = μ (37 + p) 3 ∧ ν = μ) z ν → ∀ n pc k1 k2 lv, k1 ≤ 0 → k2 ≤ 0 → decode cL_countWays pc = .ok (.ireturn, 1) → vW X n pc k1 k2 lv [.int (iZ z)] ν) : vW X 3 0 0 0 [(0, .ref (vAd X 0)), (1, .int (iZ (p : Int)))] [] μ := by
  refine v_aload_n 0 K dL_countWays_0 rfl ?_
  refine v_iload_n 1 K dL_countWays_1 rfl ?_
  refine v_callVir (c := 0) (As := [.int (iZ (p : Int))]) (rest := []) K isO_SJ rfl 1 (c_X7_countWays X.1.2.1 K.2.2.2.2.2.2 _ _ _ μ p hW hp) gL_countWays_X7_countWays rfl rfl rfl (by decide +kernel) ⟨(Nat.le_of_ble_eq_true rfl), (Nat.le_of_ble_eq_true rfl)⟩ rfl rfl (Nat.le_of_ble_eq_true rfl) dL_countWays_2 ⟨(Nat.le_of_ble_eq_true rfl), (Nat.le_of_ble_eq_true rfl)⟩ ?_
  exact hret _ _ ⟨rfl, rfl⟩ _ _ _ _ _ (Nat.le_of_ble_eq_true rfl) (Nat.le_of_ble_eq_true rfl) dL_countWays_5
theorem c_L_countWays (l : Launch) (hl : l.stackTraces = false) (D : va_G) (cy : Nat → ClassId) (ad : Nat → Nat) (μ : Mem) (p : Nat) (hW : WF μ) (hp : p < pcn μ) : cI l yL_countWays wsL_countWays ({ frames := 2, cells := 0, slots := 0, locals := 42 } : Room) D cy ad μ [.ref (ad 0), .int (iZ (p : Int))] (fun (z : Int) (ν : Mem) => z = μ (37 + p) 3 ∧ ν = μ) :=
  m_intH (av := (fun ad => [.ref (ad 0), .int (iZ (p : Int))])) hl (by decide) rfl rfl (Nat.le_of_ble_eq_true rfl) (fun _ _ _ => rfl) (fun X K htb hret => b_L_countWays p hW hp K htb hret)
theorem dL_getWay_0 : decode cL_getWay 0 = .ok (.aload_n 0, 1) := by decide +kernel
theorem dL_getWay_1 : decode cL_getWay 1 = .ok (.iload_n 1, 1) := by decide +kernel
theorem dL_getWay_2 : decode cL_getWay 2 = .ok (.iload_n 2, 1) := by decide +kernel
theorem dL_getWay_3 : decode cL_getWay 3 = .ok (.invokevirtual 38, 3) := by decide +kernel
set_option maxRecDepth 20000 in
theorem ggL_getWay_X7_getWay : GoodIn wsL_getWay wsX7_getWay := goodIn_ca (goodIn_ca (goodIn_r _ [7, 8, 9, 10, 11, 12, 6, 13, 14, 15, 16, 17, 18, 19, 20, 21, 22, 23, 24, 25, 26, 27, 28, 29, 30, 31, 32, 33, 34, 35, 36, 37, 38, 39, 40, 41, 42, 43, 44, 45] (by decide +kernel) (by decide +kernel)) (goodIn_sub (fun _ h => List.mem_cons_of_mem _ (List.mem_append_left _ (List.mem_append_right _ h))) (by decide +kernel))) (goodIn_sub (fun _ h => List.mem_cons_of_mem _ (List.mem_append_right _ h)) (by decide +kernel))
set_option maxRecDepth 20000 in
theorem gL_getWay_X7_getWay : GoodIn wsL_getWay (wsV RL 38 RX7 yX7_getWay wsX7_getWay) := goodIn_app (goodIn_of _ (by decide +kernel)) ggL_getWay_X7_getWay
theorem dL_getWay_6 : decode cL_getWay 6 = .ok (.ireturn, 1) := by decide +kernel
set_option maxHeartbeats 4000000 in
set_option maxRecDepth 100000 in
theorem b_L_getWay {X : VC} {μ : Mem} (p : Nat) (w : Int) (hW : WF μ) (hp : p < pcn μ) (hw : 0 ≤ w ∧ w < μ (37 + p) 3) (K : vK X cL_getWay 4 RL wsL_getWay ({ frames := 3, cells := 0, slots := 0, locals := 65 } : Room)) (htb : X.2.2.1.2.1.exceptionTable.toList = [(0, 6, 7, 28)].map (fun x : Nat × Nat × Nat × Nat => (⟨x.1, x.2.1, x.2.2.1, x.2.2.2⟩ : ExceptionTableEntry))) (hret : ∀ (z : Int) (ν : Mem), (fun (z : Int) (ν : Mem) => z = bits μ p w ∧ ν = μ) z ν → ∀ n pc k1 k2 lv, k1 ≤ 0 → k2 ≤ 0 → decode cL_getWay pc = .ok (.ireturn, 1) → vW X n pc k1 k2 lv [.int (iZ z)] ν) : vW X 4 0 0 0 [(0, .ref (vAd X 0)), (1, .int (iZ (p : Int))), (2, .int (iZ w))] [] μ := by
  refine v_aload_n 0 K dL_getWay_0 rfl ?_
  refine v_iload_n 1 K dL_getWay_1 rfl ?_
  refine v_iload_n 2 K dL_getWay_2 rfl ?_
  refine v_callVir (c := 0) (As := [.int (iZ (p : Int)), .int (iZ w)]) (rest := []) K isO_SJ rfl 2 (c_X7_getWay X.1.2.1 K.2.2.2.2.2.2 _ _ _ μ p w hW hp hw) gL_getWay_X7_getWay rfl rfl rfl (by decide +kernel) ⟨(Nat.le_of_ble_eq_true rfl), (Nat.le_of_ble_eq_true rfl)⟩ rfl rfl (Nat.le_of_ble_eq_true rfl) dL_getWay_3 ⟨(Nat.le_of_ble_eq_true rfl), (Nat.le_of_ble_eq_true rfl)⟩ ?_
  exact hret _ _ ⟨rfl, rfl⟩ _ _ _ _ _ (Nat.le_of_ble_eq_true rfl) (Nat.le_of_ble_eq_true rfl) dL_getWay_6
theorem c_L_getWay (l : Launch) (hl : l.stackTraces = false) (D : va_G) (cy : Nat → ClassId) (ad : Nat → Nat) (μ : Mem) (p : Nat) (w : Int) (hW : WF μ) (hp : p < pcn μ) (hw : 0 ≤ w ∧ w < μ (37 + p) 3) : cI l yL_getWay wsL_getWay ({ frames := 3, cells := 0, slots := 0, locals := 65 } : Room) D cy ad μ [.ref (ad 0), .int (iZ (p : Int)), .int (iZ w)] (fun (z : Int) (ν : Mem) => z = bits μ p w ∧ ν = μ) :=
  m_intH (av := (fun ad => [.ref (ad 0), .int (iZ (p : Int)), .int (iZ w)])) hl (by decide) rfl rfl (Nat.le_of_ble_eq_true rfl) (fun _ _ _ => rfl) (fun X K htb hret => b_L_getWay p w hW hp hw K htb hret)
theorem dL_choose_0 : decode cL_choose 0 = .ok (.aload_n 0, 1) := by decide +kernel
theorem dL_choose_1 : decode cL_choose 1 = .ok (.iload_n 1, 1) := by decide +kernel
theorem dL_choose_2 : decode cL_choose 2 = .ok (.iload_n 2, 1) := by decide +kernel
theorem dL_choose_3 : decode cL_choose 3 = .ok (.invokevirtual 41, 3) := by decide +kernel
set_option maxRecDepth 20000 in
theorem ggL_choose_X7_choose : GoodIn wsL_choose wsX7_choose := goodIn_ca (goodIn_ca (goodIn_ca (goodIn_r _ [9, 10, 11, 12, 13, 14, 15, 16, 17, 8, 18, 19, 20, 21, 22, 23, 24, 25, 26, 27, 28, 29, 30, 31, 32, 33, 34, 35, 36, 37, 38, 39, 40, 41, 42, 43, 44, 45, 46, 47, 48, 49, 50, 51, 52, 53, 54, 55, 56, 57, 58, 59, 60, 61, 62, 63, 64, 65, 66, 67, 68, 69, 70, 71] (by decide +kernel) (by decide +kernel)) (goodIn_sub (fun _ h => List.mem_cons_of_mem _ (List.mem_append_left _ (List.mem_append_left _ (List.mem_append_right _ h)))) (by decide +kernel))) (goodIn_sub (fun _ h => List.mem_cons_of_mem _ (List.mem_append_left _ (List.mem_append_right _ h))) (by decide +kernel))) (goodIn_sub (fun _ h => List.mem_cons_of_mem _ (List.mem_append_right _ h)) (by decide +kernel))
set_option maxRecDepth 20000 in
theorem gL_choose_X7_choose : GoodIn wsL_choose (wsV RL 41 RX7 yX7_choose wsX7_choose) := goodIn_app (goodIn_of _ (by decide +kernel)) ggL_choose_X7_choose
theorem dL_choose_6 : decode cL_choose 6 = .ok (.ireturn, 1) := by decide +kernel
set_option maxHeartbeats 4000000 in
set_option maxRecDepth 100000 in
theorem b_L_choose {X : VC} {μ : Mem} (p : Nat) (w : Int) (hW : WF μ) (hB : PB μ 0) (hp : p < pcn μ) (hw : 0 ≤ w ∧ w < μ (37 + p) 3) (K : vK X cL_choose 4 RL wsL_choose ({ frames := 3, cells := 0, slots := 0, locals := 71 } : Room)) (htb : X.2.2.1.2.1.exceptionTable.toList = [(0, 6, 7, 28), (0, 6, 11, 30)].map (fun x : Nat × Nat × Nat × Nat => (⟨x.1, x.2.1, x.2.2.1, x.2.2.2⟩ : ExceptionTableEntry))) (hret : ∀ (z : Int) (ν : Mem), (fun (z : Int) (ν : Mem) => z = μ (5 + 2 * 0) p ∧ TK μ ν 0 p w) z ν → ∀ n pc k1 k2 lv, k1 ≤ 0 → k2 ≤ 0 → decode cL_choose pc = .ok (.ireturn, 1) → vW X n pc k1 k2 lv [.int (iZ z)] ν) : vW X 4 0 0 0 [(0, .ref (vAd X 0)), (1, .int (iZ (p : Int))), (2, .int (iZ w))] [] μ := by
  refine v_aload_n 0 K dL_choose_0 rfl ?_
  refine v_iload_n 1 K dL_choose_1 rfl ?_
  refine v_iload_n 2 K dL_choose_2 rfl ?_
  refine v_callVi (c := 0) (As := [.int (iZ (p : Int)), .int (iZ w)]) (rest := []) K isO_SJ rfl 2 (c_X7_choose X.1.2.1 K.2.2.2.2.2.2 _ _ _ μ p w hW hB hp hw) gL_choose_X7_choose rfl rfl rfl (by decide +kernel) ⟨(Nat.le_of_ble_eq_true rfl), (Nat.le_of_ble_eq_true rfl)⟩ rfl rfl (Nat.le_of_ble_eq_true rfl) dL_choose_3 ⟨(Nat.le_of_ble_eq_true rfl), (Nat.le_of_ble_eq_true rfl)⟩ (fun z3 ν q3 => ?_)
  exact hret _ _ q3 _ _ _ _ _ (Nat.le_of_ble_eq_true rfl) (Nat.le_of_ble_eq_true rfl) dL_choose_6
theorem c_L_choose (l : Launch) (hl : l.stackTraces = false) (D : va_G) (cy : Nat → ClassId) (ad : Nat → Nat) (μ : Mem) (p : Nat) (w : Int) (hW : WF μ) (hB : PB μ 0) (hp : p < pcn μ) (hw : 0 ≤ w ∧ w < μ (37 + p) 3) : cI l yL_choose wsL_choose ({ frames := 3, cells := 0, slots := 0, locals := 71 } : Room) D cy ad μ [.ref (ad 0), .int (iZ (p : Int)), .int (iZ w)] (fun (z : Int) (ν : Mem) => z = μ (5 + 2 * 0) p ∧ TK μ ν 0 p w) :=
  m_intH (av := (fun ad => [.ref (ad 0), .int (iZ (p : Int)), .int (iZ w)])) hl (by decide) rfl rfl (Nat.le_of_ble_eq_true rfl) (fun _ _ _ => rfl) (fun X K htb hret => b_L_choose p w hW hB hp hw K htb hret)
theorem dL_choose_7 : decode cL_choose 7 = .ok (.astore_n 3, 1) := by decide +kernel
theorem dL_choose_8 : decode cL_choose 8 = .ok (.ldc 17, 2) := by decide +kernel
theorem dL_choose_10 : decode cL_choose 10 = .ok (.ireturn, 1) := by decide +kernel
set_option maxHeartbeats 4000000 in
set_option maxRecDepth 100000 in
theorem b_L_chooseT {X : VC} {μ : Mem} (p : Nat) (w : Int) (hW : WF μ) (hp : p < pcn μ) (hw : μ (37 + p) 3 ≤ w ∧ w ≤ 1000) (K : vK X cL_choose 4 RL wsL_choose ({ frames := 8, cells := 1, slots := 6, locals := 127 } : Room)) (htb : X.2.2.1.2.1.exceptionTable.toList = [(0, 6, 7, 28), (0, 6, 11, 30)].map (fun x : Nat × Nat × Nat × Nat => (⟨x.1, x.2.1, x.2.2.1, x.2.2.2⟩ : ExceptionTableEntry))) (hret : ∀ (z : Int) (ν : Mem), (fun (z : Int) (ν : Mem) => z = (-900001) ∧ ν = μ) z ν → ∀ n pc k1 k2 lv, k1 ≤ 1 → k2 ≤ 6 → decode cL_choose pc = .ok (.ireturn, 1) → vW X n pc k1 k2 lv [.int (iZ z)] ν) : vW X 4 0 0 0 [(0, .ref (vAd X 0)), (1, .int (iZ (p : Int))), (2, .int (iZ w))] [] μ := by
  refine v_aload_n 0 K dL_choose_0 rfl ?_
  refine v_iload_n 1 K dL_choose_1 rfl ?_
  refine v_iload_n 2 K dL_choose_2 rfl ?_
  refine v_callVCi (c := 0) (As := [.int (iZ (p : Int)), .int (iZ w)]) (rest := []) (E := "java/lang/IndexOutOfBoundsException") (name := "java/lang/IndexOutOfBoundsException") [] (⟨0, 6, 7, 28⟩ : ExceptionTableEntry) [(⟨0, 6, 11, 30⟩ : ExceptionTableEntry)] htb (fun _ h => absurd h List.not_mem_nil) rfl (by decide) (List.mem_cons_of_mem _ (List.mem_append_left _ (List.mem_append_left _ (List.mem_append_left _ (List.mem_append_left _ (List.mem_append_left _ (List.mem_append_left _ (List.mem_append_left _ (List.mem_append_left _ (List.mem_of_getElem? (i := 0) rfl)))))))))) ⟨rfl, by decide +kernel⟩ K isO_SJ rfl 2 (c_X7_chooseT X.1.2.1 K.2.2.2.2.2.2 _ _ _ μ p w hW hp hw) gL_choose_X7_choose rfl rfl rfl (by decide +kernel) ⟨(Nat.le_of_ble_eq_true rfl), (Nat.le_of_ble_eq_true rfl)⟩ rfl rfl (Nat.le_of_ble_eq_true rfl) dL_choose_3 ⟨(Nat.le_of_ble_eq_true rfl), (Nat.le_of_ble_eq_true rfl)⟩ (fun q9 => ?_)
  refine v_astore_n [(3, .ref q9), (0, .ref (vAd X 0)), (1, .int (iZ (p : Int))), (2, .int (iZ w))] K dL_choose_7 (by decide) rfl ?_
  refine v_ldc (v := (-900001)) (n := (-900001)) K (List.mem_cons_of_mem _ (List.mem_append_left _ (List.mem_append_left _ (List.mem_append_left _ (List.mem_append_left _ (List.mem_append_left _ (List.mem_append_left _ (List.mem_append_left _ (List.mem_append_left _ (List.mem_of_getElem? (i := 2) rfl)))))))))) dL_choose_8 (by decide) ?_
  exact hret _ _ ⟨rfl, rfl⟩ _ _ _ _ _ (Nat.le_of_ble_eq_true rfl) (Nat.le_of_ble_eq_true rfl) dL_choose_10
theorem c_L_chooseT (l : Launch) (hl : l.stackTraces = false) (D : va_G) (cy : Nat → ClassId) (ad : Nat → Nat) (μ : Mem) (p : Nat) (w : Int) (hW : WF μ) (hp : p < pcn μ) (hw : μ (37 + p) 3 ≤ w ∧ w ≤ 1000) : cI l yL_choose wsL_choose ({ frames := 8, cells := 1, slots := 6, locals := 127 } : Room) D cy ad μ [.ref (ad 0), .int (iZ (p : Int)), .int (iZ w)] (fun (z : Int) (ν : Mem) => z = (-900001) ∧ ν = μ) :=
  m_intH (av := (fun ad => [.ref (ad 0), .int (iZ (p : Int)), .int (iZ w)])) hl (by decide) rfl rfl (Nat.le_of_ble_eq_true rfl) (fun _ _ _ => rfl) (fun X K htb hret => b_L_chooseT p w hW hp hw K htb hret)
theorem dL_getChosen_0 : decode cL_getChosen 0 = .ok (.aload_n 0, 1) := by decide +kernel
theorem dL_getChosen_1 : decode cL_getChosen 1 = .ok (.iload_n 1, 1) := by decide +kernel
theorem dL_getChosen_2 : decode cL_getChosen 2 = .ok (.invokevirtual 44, 3) := by decide +kernel
set_option maxRecDepth 20000 in
theorem ggL_getChosen_X7_getChosen : GoodIn wsL_getChosen wsX7_getChosen := goodIn_ca (goodIn_ca (goodIn_r _ [7, 8, 9, 10, 11, 12, 6, 13, 14, 15, 16, 17, 18, 19, 20, 21, 22, 23, 24, 25, 26, 27, 28, 29, 30, 31] (by decide +kernel) (by decide +kernel)) (goodIn_sub (fun _ h => List.mem_cons_of_mem _ (List.mem_append_left _ (List.mem_append_right _ h))) (by decide +kernel))) (goodIn_sub (fun _ h => List.mem_cons_of_mem _ (List.mem_append_right _ h)) (by decide +kernel))
set_option maxRecDepth 20000 in
theorem gL_getChosen_X7_getChosen : GoodIn wsL_getChosen (wsV RL 44 RX7 yX7_getChosen wsX7_getChosen) := goodIn_app (goodIn_of _ (by decide +kernel)) ggL_getChosen_X7_getChosen
theorem dL_getChosen_5 : decode cL_getChosen 5 = .ok (.ireturn, 1) := by decide +kernel
set_option maxHeartbeats 4000000 in
set_option maxRecDepth 100000 in
theorem b_L_getChosen {X : VC} {μ : Mem} (p : Nat) (hW : WF μ) (hp : p < pcn μ) (K : vK X cL_getChosen 3 RL wsL_getChosen ({ frames := 2, cells := 0, slots := 0, locals := 42 } : Room)) (htb : X.2.2.1.2.1.exceptionTable.toList = [(0, 5, 6, 28)].map (fun x : Nat × Nat × Nat × Nat => (⟨x.1, x.2.1, x.2.2.1, x.2.2.2⟩ : ExceptionTableEntry))) (hret : ∀ (z : Int) (ν : Mem), (fun (z : Int) (ν : Mem) => z = μ (5 + 2 * 0) p ∧ ν = μ) z ν → ∀ n pc k1 k2 lv, k1 ≤ 0 → k2 ≤ 0 → decode cL_getChosen pc = .ok (.ireturn, 1) → vW X n pc k1 k2 lv [.int (iZ z)] ν) : vW X 3 0 0 0 [(0, .ref (vAd X 0)), (1, .int (iZ (p : Int)))] [] μ := by
  refine v_aload_n 0 K dL_getChosen_0 rfl ?_
  refine v_iload_n 1 K dL_getChosen_1 rfl ?_
  refine v_callVir (c := 0) (As := [.int (iZ (p : Int))]) (rest := []) K isO_SJ rfl 1 (c_X7_getChosen X.1.2.1 K.2.2.2.2.2.2 _ _ _ μ p hW hp) gL_getChosen_X7_getChosen rfl rfl rfl (by decide +kernel) ⟨(Nat.le_of_ble_eq_true rfl), (Nat.le_of_ble_eq_true rfl)⟩ rfl rfl (Nat.le_of_ble_eq_true rfl) dL_getChosen_2 ⟨(Nat.le_of_ble_eq_true rfl), (Nat.le_of_ble_eq_true rfl)⟩ ?_
  exact hret _ _ ⟨rfl, rfl⟩ _ _ _ _ _ (Nat.le_of_ble_eq_true rfl) (Nat.le_of_ble_eq_true rfl) dL_getChosen_5
theorem c_L_getChosen (l : Launch) (hl : l.stackTraces = false) (D : va_G) (cy : Nat → ClassId) (ad : Nat → Nat) (μ : Mem) (p : Nat) (hW : WF μ) (hp : p < pcn μ) : cI l yL_getChosen wsL_getChosen ({ frames := 2, cells := 0, slots := 0, locals := 42 } : Room) D cy ad μ [.ref (ad 0), .int (iZ (p : Int))] (fun (z : Int) (ν : Mem) => z = μ (5 + 2 * 0) p ∧ ν = μ) :=
  m_intH (av := (fun ad => [.ref (ad 0), .int (iZ (p : Int))])) hl (by decide) rfl rfl (Nat.le_of_ble_eq_true rfl) (fun _ _ _ => rfl) (fun X K htb hret => b_L_getChosen p hW hp K htb hret)
theorem dL_getLoad_0 : decode cL_getLoad 0 = .ok (.aload_n 0, 1) := by decide +kernel
theorem dL_getLoad_1 : decode cL_getLoad 1 = .ok (.iload_n 1, 1) := by decide +kernel
theorem dL_getLoad_2 : decode cL_getLoad 2 = .ok (.invokevirtual 47, 3) := by decide +kernel
set_option maxRecDepth 20000 in
theorem ggL_getLoad_X7_getLoad : GoodIn wsL_getLoad wsX7_getLoad := goodIn_ca (goodIn_ca (goodIn_r _ [7, 8, 9, 10, 11, 12, 6, 13, 14, 15, 16, 17, 18, 19, 20, 21, 22, 23, 24, 25, 26, 27, 28, 29, 30, 31] (by decide +kernel) (by decide +kernel)) (goodIn_sub (fun _ h => List.mem_cons_of_mem _ (List.mem_append_left _ (List.mem_append_right _ h))) (by decide +kernel))) (goodIn_sub (fun _ h => List.mem_cons_of_mem _ (List.mem_append_right _ h)) (by decide +kernel))
set_option maxRecDepth 20000 in
theorem gL_getLoad_X7_getLoad : GoodIn wsL_getLoad (wsV RL 47 RX7 yX7_getLoad wsX7_getLoad) := goodIn_app (goodIn_of _ (by decide +kernel)) ggL_getLoad_X7_getLoad
theorem dL_getLoad_5 : decode cL_getLoad 5 = .ok (.ireturn, 1) := by decide +kernel
set_option maxHeartbeats 4000000 in
set_option maxRecDepth 100000 in
theorem b_L_getLoad {X : VC} {μ : Mem} (r : Nat) (hW : WF μ) (hr : r < rc μ) (K : vK X cL_getLoad 3 RL wsL_getLoad ({ frames := 2, cells := 0, slots := 0, locals := 42 } : Room)) (htb : X.2.2.1.2.1.exceptionTable.toList = [(0, 5, 6, 28)].map (fun x : Nat × Nat × Nat × Nat => (⟨x.1, x.2.1, x.2.2.1, x.2.2.2⟩ : ExceptionTableEntry))) (hret : ∀ (z : Int) (ν : Mem), (fun (z : Int) (ν : Mem) => z = μ (6 + 2 * 0) r ∧ ν = μ) z ν → ∀ n pc k1 k2 lv, k1 ≤ 0 → k2 ≤ 0 → decode cL_getLoad pc = .ok (.ireturn, 1) → vW X n pc k1 k2 lv [.int (iZ z)] ν) : vW X 3 0 0 0 [(0, .ref (vAd X 0)), (1, .int (iZ (r : Int)))] [] μ := by
  refine v_aload_n 0 K dL_getLoad_0 rfl ?_
  refine v_iload_n 1 K dL_getLoad_1 rfl ?_
  refine v_callVir (c := 0) (As := [.int (iZ (r : Int))]) (rest := []) K isO_SJ rfl 1 (c_X7_getLoad X.1.2.1 K.2.2.2.2.2.2 _ _ _ μ r hW hr) gL_getLoad_X7_getLoad rfl rfl rfl (by decide +kernel) ⟨(Nat.le_of_ble_eq_true rfl), (Nat.le_of_ble_eq_true rfl)⟩ rfl rfl (Nat.le_of_ble_eq_true rfl) dL_getLoad_2 ⟨(Nat.le_of_ble_eq_true rfl), (Nat.le_of_ble_eq_true rfl)⟩ ?_
  exact hret _ _ ⟨rfl, rfl⟩ _ _ _ _ _ (Nat.le_of_ble_eq_true rfl) (Nat.le_of_ble_eq_true rfl) dL_getLoad_5
theorem c_L_getLoad (l : Launch) (hl : l.stackTraces = false) (D : va_G) (cy : Nat → ClassId) (ad : Nat → Nat) (μ : Mem) (r : Nat) (hW : WF μ) (hr : r < rc μ) : cI l yL_getLoad wsL_getLoad ({ frames := 2, cells := 0, slots := 0, locals := 42 } : Room) D cy ad μ [.ref (ad 0), .int (iZ (r : Int))] (fun (z : Int) (ν : Mem) => z = μ (6 + 2 * 0) r ∧ ν = μ) :=
  m_intH (av := (fun ad => [.ref (ad 0), .int (iZ (r : Int))])) hl (by decide) rfl rfl (Nat.le_of_ble_eq_true rfl) (fun _ _ _ => rfl) (fun X K htb hret => b_L_getLoad r hW hr K htb hret)
theorem dL_getLoad_6 : decode cL_getLoad 6 = .ok (.astore_n 2, 1) := by decide +kernel
theorem dL_getLoad_7 : decode cL_getLoad 7 = .ok (.ldc 17, 2) := by decide +kernel
theorem dL_getLoad_9 : decode cL_getLoad 9 = .ok (.ireturn, 1) := by decide +kernel
set_option maxHeartbeats 4000000 in
set_option maxRecDepth 100000 in
theorem b_L_getLoadT {X : VC} {μ : Mem} (n : Int) (hrc : 0 ≤ μ 1 2 ∧ μ 1 2 ≤ 8) (h : μ 1 2 ≤ n ∧ n ≤ 1000) (K : vK X cL_getLoad 3 RL wsL_getLoad ({ frames := 8, cells := 1, slots := 6, locals := 124 } : Room)) (htb : X.2.2.1.2.1.exceptionTable.toList = [(0, 5, 6, 28)].map (fun x : Nat × Nat × Nat × Nat => (⟨x.1, x.2.1, x.2.2.1, x.2.2.2⟩ : ExceptionTableEntry))) (hret : ∀ (z : Int) (ν : Mem), (fun (z : Int) (ν : Mem) => z = (-900001) ∧ ν = μ) z ν → ∀ n pc k1 k2 lv, k1 ≤ 1 → k2 ≤ 6 → decode cL_getLoad pc = .ok (.ireturn, 1) → vW X n pc k1 k2 lv [.int (iZ z)] ν) : vW X 3 0 0 0 [(0, .ref (vAd X 0)), (1, .int (iZ n))] [] μ := by
  refine v_aload_n 0 K dL_getLoad_0 rfl ?_
  refine v_iload_n 1 K dL_getLoad_1 rfl ?_
  refine v_callVCi (c := 0) (As := [.int (iZ n)]) (rest := []) (E := "java/lang/IndexOutOfBoundsException") (name := "java/lang/IndexOutOfBoundsException") [] (⟨0, 5, 6, 28⟩ : ExceptionTableEntry) [] htb (fun _ h => absurd h List.not_mem_nil) rfl (by decide) (List.mem_cons_of_mem _ (List.mem_append_left _ (List.mem_append_left _ (List.mem_append_left _ (List.mem_append_left _ (List.mem_append_left _ (List.mem_of_getElem? (i := 0) rfl))))))) ⟨rfl, by decide +kernel⟩ K isO_SJ rfl 1 (c_X7_getLoadT X.1.2.1 K.2.2.2.2.2.2 _ _ _ μ n hrc h) gL_getLoad_X7_getLoad rfl rfl rfl (by decide +kernel) ⟨(Nat.le_of_ble_eq_true rfl), (Nat.le_of_ble_eq_true rfl)⟩ rfl rfl (Nat.le_of_ble_eq_true rfl) dL_getLoad_2 ⟨(Nat.le_of_ble_eq_true rfl), (Nat.le_of_ble_eq_true rfl)⟩ (fun q9 => ?_)
  refine v_astore_n [(2, .ref q9), (0, .ref (vAd X 0)), (1, .int (iZ n))] K dL_getLoad_6 (by decide) rfl ?_
  refine v_ldc (v := (-900001)) (n := (-900001)) K (List.mem_cons_of_mem _ (List.mem_append_left _ (List.mem_append_left _ (List.mem_append_left _ (List.mem_append_left _ (List.mem_append_left _ (List.mem_of_getElem? (i := 1) rfl))))))) dL_getLoad_7 (by decide) ?_
  exact hret _ _ ⟨rfl, rfl⟩ _ _ _ _ _ (Nat.le_of_ble_eq_true rfl) (Nat.le_of_ble_eq_true rfl) dL_getLoad_9
theorem c_L_getLoadT (l : Launch) (hl : l.stackTraces = false) (D : va_G) (cy : Nat → ClassId) (ad : Nat → Nat) (μ : Mem) (n : Int) (hrc : 0 ≤ μ 1 2 ∧ μ 1 2 ≤ 8) (h : μ 1 2 ≤ n ∧ n ≤ 1000) : cI l yL_getLoad wsL_getLoad ({ frames := 8, cells := 1, slots := 6, locals := 124 } : Room) D cy ad μ [.ref (ad 0), .int (iZ n)] (fun (z : Int) (ν : Mem) => z = (-900001) ∧ ν = μ) :=
  m_intH (av := (fun ad => [.ref (ad 0), .int (iZ n)])) hl (by decide) rfl rfl (Nat.le_of_ble_eq_true rfl) (fun _ _ _ => rfl) (fun X K htb hret => b_L_getLoadT n hrc h K htb hret)
theorem dL_getDelay_0 : decode cL_getDelay 0 = .ok (.aload_n 0, 1) := by decide +kernel
theorem dL_getDelay_1 : decode cL_getDelay 1 = .ok (.iload_n 1, 1) := by decide +kernel
theorem dL_getDelay_2 : decode cL_getDelay 2 = .ok (.iload_n 2, 1) := by decide +kernel
theorem dL_getDelay_3 : decode cL_getDelay 3 = .ok (.invokevirtual 50, 3) := by decide +kernel
set_option maxRecDepth 20000 in
theorem ggL_getDelay_X7_getDelay : GoodIn wsL_getDelay wsX7_getDelay := goodIn_ca (goodIn_ca (goodIn_ca (goodIn_r _ [9, 10, 11, 12, 13, 14, 8, 15, 16, 17, 18, 19, 20, 21, 22, 23, 24, 25, 26, 27, 28, 29, 30, 31, 32, 33, 34, 35, 36, 37, 38, 39, 40, 41, 42, 43, 44, 45, 46, 47, 48] (by decide +kernel) (by decide +kernel)) (goodIn_sub (fun _ h => List.mem_cons_of_mem _ (List.mem_append_left _ (List.mem_append_left _ (List.mem_append_right _ h)))) (by decide +kernel))) (goodIn_sub (fun _ h => List.mem_cons_of_mem _ (List.mem_append_left _ (List.mem_append_right _ h))) (by decide +kernel))) (goodIn_sub (fun _ h => List.mem_cons_of_mem _ (List.mem_append_right _ h)) (by decide +kernel))
set_option maxRecDepth 20000 in
theorem gL_getDelay_X7_getDelay : GoodIn wsL_getDelay (wsV RL 50 RX7 yX7_getDelay wsX7_getDelay) := goodIn_app (goodIn_of _ (by decide +kernel)) ggL_getDelay_X7_getDelay
theorem dL_getDelay_6 : decode cL_getDelay 6 = .ok (.ireturn, 1) := by decide +kernel
set_option maxHeartbeats 4000000 in
set_option maxRecDepth 100000 in
theorem b_L_getDelay {X : VC} {μ : Mem} (r : Nat) (x : Int) (hW : WF μ) (hr : r < rc μ) (hx : 0 ≤ x ∧ x ≤ 18) (K : vK X cL_getDelay 4 RL wsL_getDelay ({ frames := 2, cells := 0, slots := 0, locals := 45 } : Room)) (htb : X.2.2.1.2.1.exceptionTable.toList = [(0, 6, 7, 28), (0, 6, 11, 15)].map (fun x : Nat × Nat × Nat × Nat => (⟨x.1, x.2.1, x.2.2.1, x.2.2.2⟩ : ExceptionTableEntry))) (hret : ∀ (z : Int) (ν : Mem), (fun (z : Int) (ν : Mem) => z = dly μ r x ∧ ν = μ) z ν → ∀ n pc k1 k2 lv, k1 ≤ 0 → k2 ≤ 0 → decode cL_getDelay pc = .ok (.ireturn, 1) → vW X n pc k1 k2 lv [.int (iZ z)] ν) : vW X 4 0 0 0 [(0, .ref (vAd X 0)), (1, .int (iZ (r : Int))), (2, .int (iZ x))] [] μ := by
  refine v_aload_n 0 K dL_getDelay_0 rfl ?_
  refine v_iload_n 1 K dL_getDelay_1 rfl ?_
  refine v_iload_n 2 K dL_getDelay_2 rfl ?_
  refine v_callVir (c := 0) (As := [.int (iZ (r : Int)), .int (iZ x)]) (rest := []) K isO_SJ rfl 2 (c_X7_getDelay X.1.2.1 K.2.2.2.2.2.2 _ _ _ μ r x hW hr hx) gL_getDelay_X7_getDelay rfl rfl rfl (by decide +kernel) ⟨(Nat.le_of_ble_eq_true rfl), (Nat.le_of_ble_eq_true rfl)⟩ rfl rfl (Nat.le_of_ble_eq_true rfl) dL_getDelay_3 ⟨(Nat.le_of_ble_eq_true rfl), (Nat.le_of_ble_eq_true rfl)⟩ ?_
  exact hret _ _ ⟨rfl, rfl⟩ _ _ _ _ _ (Nat.le_of_ble_eq_true rfl) (Nat.le_of_ble_eq_true rfl) dL_getDelay_6
theorem c_L_getDelay (l : Launch) (hl : l.stackTraces = false) (D : va_G) (cy : Nat → ClassId) (ad : Nat → Nat) (μ : Mem) (r : Nat) (x : Int) (hW : WF μ) (hr : r < rc μ) (hx : 0 ≤ x ∧ x ≤ 18) : cI l yL_getDelay wsL_getDelay ({ frames := 2, cells := 0, slots := 0, locals := 45 } : Room) D cy ad μ [.ref (ad 0), .int (iZ (r : Int)), .int (iZ x)] (fun (z : Int) (ν : Mem) => z = dly μ r x ∧ ν = μ) :=
  m_intH (av := (fun ad => [.ref (ad 0), .int (iZ (r : Int)), .int (iZ x)])) hl (by decide) rfl rfl (Nat.le_of_ble_eq_true rfl) (fun _ _ _ => rfl) (fun X K htb hret => b_L_getDelay r x hW hr hx K htb hret)
theorem dL_getDelay_11 : decode cL_getDelay 11 = .ok (.astore_n 3, 1) := by decide +kernel
theorem dL_getDelay_12 : decode cL_getDelay 12 = .ok (.ldc 20, 2) := by decide +kernel
theorem dL_getDelay_14 : decode cL_getDelay 14 = .ok (.ireturn, 1) := by decide +kernel
set_option maxHeartbeats 4000000 in
set_option maxRecDepth 100000 in
theorem b_L_getDelayT {X : VC} {μ : Mem} (r : Nat) (x : Int) (hW : WF μ) (hr : r < rc μ) (hx : 18 < x ∧ x ≤ 1000) (K : vK X cL_getDelay 4 RL wsL_getDelay ({ frames := 8, cells := 1, slots := 6, locals := 127 } : Room)) (htb : X.2.2.1.2.1.exceptionTable.toList = [(0, 6, 7, 28), (0, 6, 11, 15)].map (fun x : Nat × Nat × Nat × Nat => (⟨x.1, x.2.1, x.2.2.1, x.2.2.2⟩ : ExceptionTableEntry))) (hret : ∀ (z : Int) (ν : Mem), (fun (z : Int) (ν : Mem) => z = (-900002) ∧ ν = μ) z ν → ∀ n pc k1 k2 lv, k1 ≤ 1 → k2 ≤ 6 → decode cL_getDelay pc = .ok (.ireturn, 1) → vW X n pc k1 k2 lv [.int (iZ z)] ν) : vW X 4 0 0 0 [(0, .ref (vAd X 0)), (1, .int (iZ (r : Int))), (2, .int (iZ x))] [] μ := by
  refine v_aload_n 0 K dL_getDelay_0 rfl ?_
  refine v_iload_n 1 K dL_getDelay_1 rfl ?_
  refine v_iload_n 2 K dL_getDelay_2 rfl ?_
  refine v_callVCi (c := 0) (As := [.int (iZ (r : Int)), .int (iZ x)]) (rest := []) (E := "java/lang/IllegalArgumentException") (name := "java/lang/IllegalArgumentException") [(⟨0, 6, 7, 28⟩ : ExceptionTableEntry)] (⟨0, 6, 11, 15⟩ : ExceptionTableEntry) [] htb (List.forall_mem_cons.mpr ⟨Or.inr ⟨by decide, "java/lang/IndexOutOfBoundsException", K.1.2.2.2.2.1 _ (List.mem_cons_of_mem _ (List.mem_append_left _ (List.mem_append_left _ (List.mem_append_left _ (List.mem_append_left _ (List.mem_append_left _ (List.mem_append_left _ (List.mem_append_left _ (List.mem_of_getElem? (i := 0) rfl))))))))), exP.nc K.2.2.2.2.2.1 "java/lang/IllegalArgumentException" "java/lang/IndexOutOfBoundsException" (by decide +kernel) (by decide +kernel) (by decide +kernel)⟩, (fun _ h => absurd h List.not_mem_nil)⟩) rfl (by decide) (List.mem_cons_of_mem _ (List.mem_append_left _ (List.mem_append_left _ (List.mem_append_left _ (List.mem_append_left _ (List.mem_append_left _ (List.mem_append_left _ (List.mem_append_left _ (List.mem_of_getElem? (i := 1) rfl))))))))) ⟨rfl, by decide +kernel⟩ K isO_SJ rfl 2 (c_X7_getDelayT X.1.2.1 K.2.2.2.2.2.2 _ _ _ μ r x hW hr hx) gL_getDelay_X7_getDelay rfl rfl rfl (by decide +kernel) ⟨(Nat.le_of_ble_eq_true rfl), (Nat.le_of_ble_eq_true rfl)⟩ rfl rfl (Nat.le_of_ble_eq_true rfl) dL_getDelay_3 ⟨(Nat.le_of_ble_eq_true rfl), (Nat.le_of_ble_eq_true rfl)⟩ (fun q9 => ?_)
  refine v_astore_n [(3, .ref q9), (0, .ref (vAd X 0)), (1, .int (iZ (r : Int))), (2, .int (iZ x))] K dL_getDelay_11 (by decide) rfl ?_
  refine v_ldc (v := (-900002)) (n := (-900002)) K (List.mem_cons_of_mem _ (List.mem_append_left _ (List.mem_append_left _ (List.mem_append_left _ (List.mem_append_left _ (List.mem_append_left _ (List.mem_append_left _ (List.mem_append_left _ (List.mem_of_getElem? (i := 3) rfl))))))))) dL_getDelay_12 (by decide) ?_
  exact hret _ _ ⟨rfl, rfl⟩ _ _ _ _ _ (Nat.le_of_ble_eq_true rfl) (Nat.le_of_ble_eq_true rfl) dL_getDelay_14
theorem c_L_getDelayT (l : Launch) (hl : l.stackTraces = false) (D : va_G) (cy : Nat → ClassId) (ad : Nat → Nat) (μ : Mem) (r : Nat) (x : Int) (hW : WF μ) (hr : r < rc μ) (hx : 18 < x ∧ x ≤ 1000) : cI l yL_getDelay wsL_getDelay ({ frames := 8, cells := 1, slots := 6, locals := 127 } : Room) D cy ad μ [.ref (ad 0), .int (iZ (r : Int)), .int (iZ x)] (fun (z : Int) (ν : Mem) => z = (-900002) ∧ ν = μ) :=
  m_intH (av := (fun ad => [.ref (ad 0), .int (iZ (r : Int)), .int (iZ x)])) hl (by decide) rfl rfl (Nat.le_of_ble_eq_true rfl) (fun _ _ _ => rfl) (fun X K htb hret => b_L_getDelayT r x hW hr hx K htb hret)
theorem dL_getCost_0 : decode cL_getCost 0 = .ok (.aload_n 0, 1) := by decide +kernel
theorem dL_getCost_1 : decode cL_getCost 1 = .ok (.iload_n 1, 1) := by decide +kernel
theorem dL_getCost_2 : decode cL_getCost 2 = .ok (.invokevirtual 53, 3) := by decide +kernel
set_option maxRecDepth 20000 in
theorem ggL_getCost_X7_getCost : GoodIn wsL_getCost wsX7_getCost := goodIn_ca (goodIn_ca (goodIn_r _ [7, 8, 9, 10, 11, 12, 6, 13, 14, 15, 16, 17, 18, 19, 20, 21, 22, 23, 24, 25, 26, 27, 28, 29, 30, 31, 32, 33, 34, 35, 36, 37, 38, 39, 40, 41, 42, 43, 44, 45, 46, 47, 48, 49, 50, 51, 52, 53, 54, 55, 56, 57, 58, 59, 60, 61, 62, 63, 64, 65, 66, 67, 68, 69, 70, 71, 72, 73, 74, 75] (by decide +kernel) (by decide +kernel)) (goodIn_sub (fun _ h => List.mem_cons_of_mem _ (List.mem_append_left _ (List.mem_append_right _ h))) (by decide +kernel))) (goodIn_sub (fun _ h => List.mem_cons_of_mem _ (List.mem_append_right _ h)) (by decide +kernel))
set_option maxRecDepth 20000 in
theorem gL_getCost_X7_getCost : GoodIn wsL_getCost (wsV RL 53 RX7 yX7_getCost wsX7_getCost) := goodIn_app (goodIn_of _ (by decide +kernel)) ggL_getCost_X7_getCost
theorem dL_getCost_5 : decode cL_getCost 5 = .ok (.ireturn, 1) := by decide +kernel
set_option maxHeartbeats 4000000 in
set_option maxRecDepth 100000 in
theorem b_L_getCost {X : VC} {μ : Mem} (p : Nat) (hW : WF μ) (hB : PB μ 0) (hp : p < pcn μ) (K : vK X cL_getCost 3 RL wsL_getCost ({ frames := 4, cells := 0, slots := 0, locals := 93 } : Room)) (htb : X.2.2.1.2.1.exceptionTable.toList = [(0, 5, 6, 28)].map (fun x : Nat × Nat × Nat × Nat => (⟨x.1, x.2.1, x.2.2.1, x.2.2.2⟩ : ExceptionTableEntry))) (hret : ∀ (z : Int) (ν : Mem), (fun (z : Int) (ν : Mem) => z = cst μ 0 p (μ (5 + 2 * 0) p) ∧ ν = μ) z ν → ∀ n pc k1 k2 lv, k1 ≤ 0 → k2 ≤ 0 → decode cL_getCost pc = .ok (.ireturn, 1) → vW X n pc k1 k2 lv [.int (iZ z)] ν) : vW X 3 0 0 0 [(0, .ref (vAd X 0)), (1, .int (iZ (p : Int)))] [] μ := by
  refine v_aload_n 0 K dL_getCost_0 rfl ?_
  refine v_iload_n 1 K dL_getCost_1 rfl ?_
  refine v_callVir (c := 0) (As := [.int (iZ (p : Int))]) (rest := []) K isO_SJ rfl 1 (c_X7_getCost X.1.2.1 K.2.2.2.2.2.2 _ _ _ μ p hW hB hp) gL_getCost_X7_getCost rfl rfl rfl (by decide +kernel) ⟨(Nat.le_of_ble_eq_true rfl), (Nat.le_of_ble_eq_true rfl)⟩ rfl rfl (Nat.le_of_ble_eq_true rfl) dL_getCost_2 ⟨(Nat.le_of_ble_eq_true rfl), (Nat.le_of_ble_eq_true rfl)⟩ ?_
  exact hret _ _ ⟨rfl, rfl⟩ _ _ _ _ _ (Nat.le_of_ble_eq_true rfl) (Nat.le_of_ble_eq_true rfl) dL_getCost_5
theorem c_L_getCost (l : Launch) (hl : l.stackTraces = false) (D : va_G) (cy : Nat → ClassId) (ad : Nat → Nat) (μ : Mem) (p : Nat) (hW : WF μ) (hB : PB μ 0) (hp : p < pcn μ) : cI l yL_getCost wsL_getCost ({ frames := 4, cells := 0, slots := 0, locals := 93 } : Room) D cy ad μ [.ref (ad 0), .int (iZ (p : Int))] (fun (z : Int) (ν : Mem) => z = cst μ 0 p (μ (5 + 2 * 0) p) ∧ ν = μ) :=
  m_intH (av := (fun ad => [.ref (ad 0), .int (iZ (p : Int))])) hl (by decide) rfl rfl (Nat.le_of_ble_eq_true rfl) (fun _ _ _ => rfl) (fun X K htb hret => b_L_getCost p hW hB hp K htb hret)
theorem dL_getCost_6 : decode cL_getCost 6 = .ok (.astore_n 2, 1) := by decide +kernel
theorem dL_getCost_7 : decode cL_getCost 7 = .ok (.ldc 17, 2) := by decide +kernel
theorem dL_getCost_9 : decode cL_getCost 9 = .ok (.ireturn, 1) := by decide +kernel
set_option maxHeartbeats 4000000 in
set_option maxRecDepth 100000 in
theorem b_L_getCostT {X : VC} {μ : Mem} (n : Int) (hpc : 0 ≤ μ 1 3 ∧ μ 1 3 ≤ 6) (h : μ 1 3 ≤ n ∧ n ≤ 1000) (K : vK X cL_getCost 3 RL wsL_getCost ({ frames := 8, cells := 1, slots := 6, locals := 124 } : Room)) (htb : X.2.2.1.2.1.exceptionTable.toList = [(0, 5, 6, 28)].map (fun x : Nat × Nat × Nat × Nat => (⟨x.1, x.2.1, x.2.2.1, x.2.2.2⟩ : ExceptionTableEntry))) (hret : ∀ (z : Int) (ν : Mem), (fun (z : Int) (ν : Mem) => z = (-900001) ∧ ν = μ) z ν → ∀ n pc k1 k2 lv, k1 ≤ 1 → k2 ≤ 6 → decode cL_getCost pc = .ok (.ireturn, 1) → vW X n pc k1 k2 lv [.int (iZ z)] ν) : vW X 3 0 0 0 [(0, .ref (vAd X 0)), (1, .int (iZ n))] [] μ := by
  refine v_aload_n 0 K dL_getCost_0 rfl ?_
  refine v_iload_n 1 K dL_getCost_1 rfl ?_
  refine v_callVCi (c := 0) (As := [.int (iZ n)]) (rest := []) (E := "java/lang/IndexOutOfBoundsException") (name := "java/lang/IndexOutOfBoundsException") [] (⟨0, 5, 6, 28⟩ : ExceptionTableEntry) [] htb (fun _ h => absurd h List.not_mem_nil) rfl (by decide) (List.mem_cons_of_mem _ (List.mem_append_left _ (List.mem_append_left _ (List.mem_append_left _ (List.mem_append_left _ (List.mem_append_left _ (List.mem_append_left _ (List.mem_append_left _ (List.mem_append_left _ (List.mem_of_getElem? (i := 0) rfl)))))))))) ⟨rfl, by decide +kernel⟩ K isO_SJ rfl 1 (c_X7_getCostT X.1.2.1 K.2.2.2.2.2.2 _ _ _ μ n hpc h) gL_getCost_X7_getCost rfl rfl rfl (by decide +kernel) ⟨(Nat.le_of_ble_eq_true rfl), (Nat.le_of_ble_eq_true rfl)⟩ rfl rfl (Nat.le_of_ble_eq_true rfl) dL_getCost_2 ⟨(Nat.le_of_ble_eq_true rfl), (Nat.le_of_ble_eq_true rfl)⟩ (fun q9 => ?_)
  refine v_astore_n [(2, .ref q9), (0, .ref (vAd X 0)), (1, .int (iZ n))] K dL_getCost_6 (by decide) rfl ?_
  refine v_ldc (v := (-900001)) (n := (-900001)) K (List.mem_cons_of_mem _ (List.mem_append_left _ (List.mem_append_left _ (List.mem_append_left _ (List.mem_append_left _ (List.mem_append_left _ (List.mem_append_left _ (List.mem_append_left _ (List.mem_append_left _ (List.mem_of_getElem? (i := 1) rfl)))))))))) dL_getCost_7 (by decide) ?_
  exact hret _ _ ⟨rfl, rfl⟩ _ _ _ _ _ (Nat.le_of_ble_eq_true rfl) (Nat.le_of_ble_eq_true rfl) dL_getCost_9
theorem c_L_getCostT (l : Launch) (hl : l.stackTraces = false) (D : va_G) (cy : Nat → ClassId) (ad : Nat → Nat) (μ : Mem) (n : Int) (hpc : 0 ≤ μ 1 3 ∧ μ 1 3 ≤ 6) (h : μ 1 3 ≤ n ∧ n ≤ 1000) : cI l yL_getCost wsL_getCost ({ frames := 8, cells := 1, slots := 6, locals := 124 } : Room) D cy ad μ [.ref (ad 0), .int (iZ n)] (fun (z : Int) (ν : Mem) => z = (-900001) ∧ ν = μ) :=
  m_intH (av := (fun ad => [.ref (ad 0), .int (iZ n)])) hl (by decide) rfl rfl (Nat.le_of_ble_eq_true rfl) (fun _ _ _ => rfl) (fun X K htb hret => b_L_getCostT n hpc h K htb hret)
theorem dL_costOf_0 : decode cL_costOf 0 = .ok (.aload_n 0, 1) := by decide +kernel
theorem dL_costOf_1 : decode cL_costOf 1 = .ok (.iload_n 1, 1) := by decide +kernel
theorem dL_costOf_2 : decode cL_costOf 2 = .ok (.iload_n 2, 1) := by decide +kernel
theorem dL_costOf_3 : decode cL_costOf 3 = .ok (.invokevirtual 56, 3) := by decide +kernel
set_option maxRecDepth 20000 in
theorem ggL_costOf_X7_costOf : GoodIn wsL_costOf wsX7_costOf := goodIn_ca (goodIn_ca (goodIn_r _ [7, 8, 9, 10, 11, 12, 6, 13, 14, 15, 16, 17, 18, 19, 20, 21, 22, 23, 24, 25, 26, 27, 28, 29, 30, 31, 32, 33, 34, 35, 36, 37, 38, 39, 40, 41, 42, 43, 44, 45, 46, 47, 48, 49, 50, 51, 52, 53, 54, 55, 56, 57, 58, 59, 60, 61, 62, 63, 64, 65, 66, 67, 68, 69, 70, 71, 72, 73, 74, 75, 76, 77] (by decide +kernel) (by decide +kernel)) (goodIn_sub (fun _ h => List.mem_cons_of_mem _ (List.mem_append_left _ (List.mem_append_right _ h))) (by decide +kernel))) (goodIn_sub (fun _ h => List.mem_cons_of_mem _ (List.mem_append_right _ h)) (by decide +kernel))
set_option maxRecDepth 20000 in
theorem gL_costOf_X7_costOf : GoodIn wsL_costOf (wsV RL 56 RX7 yX7_costOf wsX7_costOf) := goodIn_app (goodIn_of _ (by decide +kernel)) ggL_costOf_X7_costOf
theorem dL_costOf_6 : decode cL_costOf 6 = .ok (.ireturn, 1) := by decide +kernel
set_option maxHeartbeats 4000000 in
set_option maxRecDepth 100000 in
theorem b_L_costOf {X : VC} {μ : Mem} (p : Nat) (w : Int) (hW : WF μ) (hB : PB μ 0) (hp : p < pcn μ) (hw : 0 ≤ w ∧ w < μ (37 + p) 3) (K : vK X cL_costOf 4 RL wsL_costOf ({ frames := 3, cells := 0, slots := 0, locals := 72 } : Room)) (htb : X.2.2.1.2.1.exceptionTable.toList = [(0, 6, 7, 28)].map (fun x : Nat × Nat × Nat × Nat => (⟨x.1, x.2.1, x.2.2.1, x.2.2.2⟩ : ExceptionTableEntry))) (hret : ∀ (z : Int) (ν : Mem), (fun (z : Int) (ν : Mem) => z = cst μ 0 p w ∧ ν = μ) z ν → ∀ n pc k1 k2 lv, k1 ≤ 0 → k2 ≤ 0 → decode cL_costOf pc = .ok (.ireturn, 1) → vW X n pc k1 k2 lv [.int (iZ z)] ν) : vW X 4 0 0 0 [(0, .ref (vAd X 0)), (1, .int (iZ (p : Int))), (2, .int (iZ w))] [] μ := by
  refine v_aload_n 0 K dL_costOf_0 rfl ?_
  refine v_iload_n 1 K dL_costOf_1 rfl ?_
  refine v_iload_n 2 K dL_costOf_2 rfl ?_
  refine v_callVir (c := 0) (As := [.int (iZ (p : Int)), .int (iZ w)]) (rest := []) K isO_SJ rfl 2 (c_X7_costOf X.1.2.1 K.2.2.2.2.2.2 _ _ _ μ p w hW hB hp hw) gL_costOf_X7_costOf rfl rfl rfl (by decide +kernel) ⟨(Nat.le_of_ble_eq_true rfl), (Nat.le_of_ble_eq_true rfl)⟩ rfl rfl (Nat.le_of_ble_eq_true rfl) dL_costOf_3 ⟨(Nat.le_of_ble_eq_true rfl), (Nat.le_of_ble_eq_true rfl)⟩ ?_
  exact hret _ _ ⟨rfl, rfl⟩ _ _ _ _ _ (Nat.le_of_ble_eq_true rfl) (Nat.le_of_ble_eq_true rfl) dL_costOf_6
theorem c_L_costOf (l : Launch) (hl : l.stackTraces = false) (D : va_G) (cy : Nat → ClassId) (ad : Nat → Nat) (μ : Mem) (p : Nat) (w : Int) (hW : WF μ) (hB : PB μ 0) (hp : p < pcn μ) (hw : 0 ≤ w ∧ w < μ (37 + p) 3) : cI l yL_costOf wsL_costOf ({ frames := 3, cells := 0, slots := 0, locals := 72 } : Room) D cy ad μ [.ref (ad 0), .int (iZ (p : Int)), .int (iZ w)] (fun (z : Int) (ν : Mem) => z = cst μ 0 p w ∧ ν = μ) :=
  m_intH (av := (fun ad => [.ref (ad 0), .int (iZ (p : Int)), .int (iZ w)])) hl (by decide) rfl rfl (Nat.le_of_ble_eq_true rfl) (fun _ _ _ => rfl) (fun X K htb hret => b_L_costOf p w hW hB hp hw K htb hret)
theorem dL_setToll_0 : decode cL_setToll 0 = .ok (.aload_n 0, 1) := by decide +kernel
theorem dL_setToll_1 : decode cL_setToll 1 = .ok (.iload_n 1, 1) := by decide +kernel
theorem dL_setToll_2 : decode cL_setToll 2 = .ok (.iload_n 2, 1) := by decide +kernel
theorem dL_setToll_3 : decode cL_setToll 3 = .ok (.invokevirtual 59, 3) := by decide +kernel
set_option maxRecDepth 20000 in
theorem ggL_setToll_X7_setToll : GoodIn wsL_setToll wsX7_setToll := goodIn_ca (goodIn_ca (goodIn_r _ [9, 10, 11, 12, 13, 14, 15, 8, 16, 17, 18, 19, 20, 21, 22, 23, 24, 25, 26, 27, 28, 29, 30, 31, 32, 33, 34, 35, 36, 37, 38, 39, 40, 41, 42, 43] (by decide +kernel) (by decide +kernel)) (goodIn_sub (fun _ h => List.mem_cons_of_mem _ (List.mem_append_left _ (List.mem_append_right _ h))) (by decide +kernel))) (goodIn_sub (fun _ h => List.mem_cons_of_mem _ (List.mem_append_right _ h)) (by decide +kernel))
set_option maxRecDepth 20000 in
theorem gL_setToll_X7_setToll : GoodIn wsL_setToll (wsV RL 59 RX7 yX7_setToll wsX7_setToll) := goodIn_app (goodIn_of _ (by decide +kernel)) ggL_setToll_X7_setToll
theorem dL_setToll_6 : decode cL_setToll 6 = .ok (.ireturn, 1) := by decide +kernel
set_option maxHeartbeats 4000000 in
set_option maxRecDepth 100000 in
theorem b_L_setToll {X : VC} {μ : Mem} (r : Nat) (x : Int) (hW : WF μ) (hr : r < rc μ) (hx : 0 ≤ x ∧ x ≤ 9999) (K : vK X cL_setToll 4 RL wsL_setToll ({ frames := 2, cells := 0, slots := 0, locals := 46 } : Room)) (htb : X.2.2.1.2.1.exceptionTable.toList = [(0, 6, 7, 28), (0, 6, 11, 15)].map (fun x : Nat × Nat × Nat × Nat => (⟨x.1, x.2.1, x.2.2.1, x.2.2.2⟩ : ExceptionTableEntry))) (hret : ∀ (z : Int) (ν : Mem), (fun (z : Int) (ν : Mem) => z = μ (21 + r) 5 ∧ ν = upM μ (21 + r) 5 x) z ν → ∀ n pc k1 k2 lv, k1 ≤ 0 → k2 ≤ 0 → decode cL_setToll pc = .ok (.ireturn, 1) → vW X n pc k1 k2 lv [.int (iZ z)] ν) : vW X 4 0 0 0 [(0, .ref (vAd X 0)), (1, .int (iZ (r : Int))), (2, .int (iZ x))] [] μ := by
  refine v_aload_n 0 K dL_setToll_0 rfl ?_
  refine v_iload_n 1 K dL_setToll_1 rfl ?_
  refine v_iload_n 2 K dL_setToll_2 rfl ?_
  refine v_callVi (c := 0) (As := [.int (iZ (r : Int)), .int (iZ x)]) (rest := []) K isO_SJ rfl 2 (c_X7_setToll X.1.2.1 K.2.2.2.2.2.2 _ _ _ μ r x hW hr hx) gL_setToll_X7_setToll rfl rfl rfl (by decide +kernel) ⟨(Nat.le_of_ble_eq_true rfl), (Nat.le_of_ble_eq_true rfl)⟩ rfl rfl (Nat.le_of_ble_eq_true rfl) dL_setToll_3 ⟨(Nat.le_of_ble_eq_true rfl), (Nat.le_of_ble_eq_true rfl)⟩ (fun z3 ν q3 => ?_)
  exact hret _ _ q3 _ _ _ _ _ (Nat.le_of_ble_eq_true rfl) (Nat.le_of_ble_eq_true rfl) dL_setToll_6
theorem c_L_setToll (l : Launch) (hl : l.stackTraces = false) (D : va_G) (cy : Nat → ClassId) (ad : Nat → Nat) (μ : Mem) (r : Nat) (x : Int) (hW : WF μ) (hr : r < rc μ) (hx : 0 ≤ x ∧ x ≤ 9999) : cI l yL_setToll wsL_setToll ({ frames := 2, cells := 0, slots := 0, locals := 46 } : Room) D cy ad μ [.ref (ad 0), .int (iZ (r : Int)), .int (iZ x)] (fun (z : Int) (ν : Mem) => z = μ (21 + r) 5 ∧ ν = upM μ (21 + r) 5 x) :=
  m_intH (av := (fun ad => [.ref (ad 0), .int (iZ (r : Int)), .int (iZ x)])) hl (by decide) rfl rfl (Nat.le_of_ble_eq_true rfl) (fun _ _ _ => rfl) (fun X K htb hret => b_L_setToll r x hW hr hx K htb hret)
