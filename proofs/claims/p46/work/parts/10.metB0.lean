theorem dX7_hasBit_0 : decode cX7_hasBit 0 = .ok (.iload_n 0, 1) := by decide +kernel
theorem dX7_hasBit_1 : decode cX7_hasBit 1 = .ok (.iload_n 1, 1) := by decide +kernel
theorem dX7_hasBit_2 : decode cX7_hasBit 2 = .ok (.ishr, 1) := by decide +kernel
theorem dX7_hasBit_3 : decode cX7_hasBit 3 = .ok (.iconst 1, 1) := by decide +kernel
theorem dX7_hasBit_4 : decode cX7_hasBit 4 = .ok (.iand, 1) := by decide +kernel
theorem dX7_hasBit_5 : decode cX7_hasBit 5 = .ok (.ifCond .eq 7, 3) := by decide +kernel
theorem dX7_hasBit_12 : decode cX7_hasBit 12 = .ok (.iconst 0, 1) := by decide +kernel
theorem dX7_hasBit_13 : decode cX7_hasBit 13 = .ok (.ireturn, 1) := by decide +kernel
theorem dX7_hasBit_8 : decode cX7_hasBit 8 = .ok (.iconst 1, 1) := by decide +kernel
theorem dX7_hasBit_9 : decode cX7_hasBit 9 = .ok (.goto 4, 3) := by decide +kernel
set_option maxHeartbeats 4000000 in
set_option maxRecDepth 100000 in
theorem b_X7_hasBit {X : VC} {μ : Mem} (b : Int) (r : Nat) (hb : 0 ≤ b ∧ b ≤ 2147483647) (hr : r < 32) (K : vK X cX7_hasBit 2 RX7 wsX7_hasBit ({ frames := 0, cells := 0, slots := 0, locals := 0 } : Room)) (hret : ∀ (z : Int) (ν : Mem), (fun (z : Int) (ν : Mem) => z = tz b r ∧ ν = μ) z ν → ∀ n pc k1 k2 lv, k1 ≤ 0 → k2 ≤ 0 → decode cX7_hasBit pc = .ok (.ireturn, 1) → vW X n pc k1 k2 lv [.int (iZ z)] ν) : vW X 2 0 0 0 [(0, .int (iZ b)), (1, .int (iZ (r : Int)))] [] μ := by
  have h01 := tz_01 b r
  refine v_iload_n 0 K dX7_hasBit_0 rfl ?_
  refine v_iload_n 1 K dX7_hasBit_1 rfl ?_
  refine v_ishr (z := ((b.toNat / 2 ^ r : Nat) : Int)) (iZ_shr hb hr) K dX7_hasBit_2 ?_
  refine v_iconst K dX7_hasBit_3 ?_
  refine v_iand (z := (tz b r)) iZ_and1 K dX7_hasBit_4 ?_
  refine v_if_eq 12 K dX7_hasBit_5 (by decide) (by omega) (fun c5 => ?_) (fun c5 => ?_)
  · refine v_iconst K dX7_hasBit_12 ?_
    exact hret _ _ ⟨(by omega), rfl⟩ _ _ _ _ _ (Nat.le_of_ble_eq_true rfl) (Nat.le_of_ble_eq_true rfl) dX7_hasBit_13
  · refine v_iconst K dX7_hasBit_8 ?_
    refine v_goto 13 K dX7_hasBit_9 (by decide) ?_
    exact hret _ _ ⟨(by omega), rfl⟩ _ _ _ _ _ (Nat.le_of_ble_eq_true rfl) (Nat.le_of_ble_eq_true rfl) dX7_hasBit_13
theorem c_X7_hasBit (l : Launch) (hl : l.stackTraces = false) (D : va_G) (cy : Nat → ClassId) (ad : Nat → Nat) (μ : Mem) (b : Int) (r : Nat) (hb : 0 ≤ b ∧ b ≤ 2147483647) (hr : r < 32) : cI l yX7_hasBit wsX7_hasBit ({ frames := 0, cells := 0, slots := 0, locals := 0 } : Room) D cy ad μ [.int (iZ b), .int (iZ (r : Int))] (fun (z : Int) (ν : Mem) => z = tz b r ∧ ν = μ) :=
  m_int (av := (fun ad => [.int (iZ b), .int (iZ (r : Int))])) hl (by decide) rfl rfl (Nat.le_of_ble_eq_true rfl) (fun z ν q => (nar_z (by have := tz_01 b r; have := q.1; omega)).1) (fun X K hret => b_X7_hasBit b r hb hr K hret)
theorem dX4_bitsOf_0 : decode cX4_bitsOf 0 = .ok (.iload_n 1, 1) := by decide +kernel
theorem dX4_bitsOf_1 : decode cX4_bitsOf 1 = .ok (.ifCond .lt 11, 3) := by decide +kernel
theorem dX4_bitsOf_12 : decode cX4_bitsOf 12 = .ok (.iconst 0, 1) := by decide +kernel
theorem dX4_bitsOf_13 : decode cX4_bitsOf 13 = .ok (.goto 9, 3) := by decide +kernel
theorem dX4_bitsOf_22 : decode cX4_bitsOf 22 = .ok (.ireturn, 1) := by decide +kernel
theorem dX4_bitsOf_4 : decode cX4_bitsOf 4 = .ok (.iload_n 1, 1) := by decide +kernel
theorem dX4_bitsOf_5 : decode cX4_bitsOf 5 = .ok (.aload_n 0, 1) := by decide +kernel
theorem dX4_bitsOf_6 : decode cX4_bitsOf 6 = .ok (.getfield 23, 3) := by decide +kernel
theorem dX4_bitsOf_9 : decode cX4_bitsOf 9 = .ok (.if_icmp .lt 7, 3) := by decide +kernel
theorem dX4_bitsOf_16 : decode cX4_bitsOf 16 = .ok (.aload_n 0, 1) := by decide +kernel
theorem dX4_bitsOf_17 : decode cX4_bitsOf 17 = .ok (.getfield 15, 3) := by decide +kernel
theorem dX4_bitsOf_20 : decode cX4_bitsOf 20 = .ok (.iload_n 1, 1) := by decide +kernel
theorem dX4_bitsOf_21 : decode cX4_bitsOf 21 = .ok (.iaload, 1) := by decide +kernel
set_option maxHeartbeats 4000000 in
set_option maxRecDepth 100000 in
theorem b_X4_bitsOf {X : VC} {μ : Mem} (p : Nat) (w : Int) (hp : p < 6) (hw : -1 ≤ w ∧ w ≤ 100) (hW : WF μ) (K : vK X cX4_bitsOf 2 RX4 wsX4_bitsOf ({ frames := 0, cells := 0, slots := 0, locals := 0 } : Room)) (hret : ∀ (z : Int) (ν : Mem), (fun (z : Int) (ν : Mem) => z = bits μ p w ∧ ν = μ) z ν → ∀ n pc k1 k2 lv, k1 ≤ 0 → k2 ≤ 0 → decode cX4_bitsOf pc = .ok (.ireturn, 1) → vW X n pc k1 k2 lv [.int (iZ z)] ν) : vW X 2 0 0 0 [(0, .ref (vAd X (37 + p))), (1, .int (iZ w))] [] μ := by
  have hpl := hW.pl hp
  refine v_iload_n 1 K dX4_bitsOf_0 rfl ?_
  refine v_if_lt 12 K dX4_bitsOf_1 (by decide) (by omega) (fun c1 => ?_) (fun c1 => ?_)
  · refine v_iconst K dX4_bitsOf_12 ?_
    refine v_goto 22 K dX4_bitsOf_13 (by decide) ?_
    exact hret _ _ ⟨(by unfold bits; rw [if_pos (by omega)]), rfl⟩ _ _ _ _ _ (Nat.le_of_ble_eq_true rfl) (Nat.le_of_ble_eq_true rfl) dX4_bitsOf_22
  · refine v_iload_n 1 K dX4_bitsOf_4 rfl ?_
    refine v_aload_n 0 K dX4_bitsOf_5 rfl ?_
    refine v_get (c := (37 + p)) (k := 3) (C := RX4) (T := TX4) (N := 6) (v := .int (iZ (μ (37 + p) 3))) K (isO_Py (p := p) (by omega)) rfl (fun _ h => (List.mem_cons_of_mem _ (List.mem_append_left _ (List.mem_append_right _ h)))) (by decide) (List.mem_cons_of_mem _ (List.mem_append_left _ (List.mem_append_left _ (List.mem_of_getElem? (i := 0) rfl)))) rfl dX4_bitsOf_6 rfl ?_
    refine v_icmp_lt 16 K dX4_bitsOf_9 (by decide) (by omega) (by omega) (fun c9 => ?_) (fun c9 => ?_)
    · refine v_aload_n 0 K dX4_bitsOf_16 rfl ?_
      refine v_get (c := (37 + p)) (k := 4) (C := RX4) (T := TX4) (N := 6) (v := .ref (vAd X (43 + p))) K (isO_Py (p := p) (by omega)) rfl (fun _ h => (List.mem_cons_of_mem _ (List.mem_append_left _ (List.mem_append_right _ h)))) (by decide) (List.mem_cons_of_mem _ (List.mem_append_left _ (List.mem_append_left _ (List.mem_of_getElem? (i := 1) rfl)))) rfl dX4_bitsOf_17 rfl ?_
      refine v_iload_n 1 K dX4_bitsOf_20 rfl ?_
      refine v_iald (c := (43 + p)) ((w).toNat) K (isI_wy (p := p) (by omega)) (by omega) (by omega) dX4_bitsOf_21 ?_
      exact hret _ _ ⟨(by unfold bits; rw [if_neg (by omega)]), rfl⟩ _ _ _ _ _ (Nat.le_of_ble_eq_true rfl) (Nat.le_of_ble_eq_true rfl) dX4_bitsOf_22
    · refine v_iconst K dX4_bitsOf_12 ?_
      refine v_goto 22 K dX4_bitsOf_13 (by decide) ?_
      exact hret _ _ ⟨(by unfold bits; rw [if_pos (by omega)]), rfl⟩ _ _ _ _ _ (Nat.le_of_ble_eq_true rfl) (Nat.le_of_ble_eq_true rfl) dX4_bitsOf_22
theorem c_X4_bitsOf (l : Launch) (hl : l.stackTraces = false) (D : va_G) (cy : Nat → ClassId) (ad : Nat → Nat) (μ : Mem) (p : Nat) (w : Int) (hp : p < 6) (hw : -1 ≤ w ∧ w ≤ 100) (hW : WF μ) : cI l yX4_bitsOf wsX4_bitsOf ({ frames := 0, cells := 0, slots := 0, locals := 0 } : Room) D cy ad μ [.ref (ad (37 + p)), .int (iZ w)] (fun (z : Int) (ν : Mem) => z = bits μ p w ∧ ν = μ) :=
  m_int (av := (fun ad => [.ref (ad (37 + p)), .int (iZ w)])) hl (by decide) rfl rfl (Nat.le_of_ble_eq_true rfl) (fun _ _ _ => rfl) (fun X K hret => b_X4_bitsOf p w hp hw hW K hret)
theorem dX4_owns_0 : decode cX4_owns 0 = .ok (.iconst 0, 1) := by decide +kernel
theorem dX4_owns_1 : decode cX4_owns 1 = .ok (.istore_n 2, 1) := by decide +kernel
theorem dX4_owns_2 : decode cX4_owns 2 = .ok (.iload_n 2, 1) := by decide +kernel
theorem dX4_owns_3 : decode cX4_owns 3 = .ok (.aload_n 0, 1) := by decide +kernel
theorem dX4_owns_4 : decode cX4_owns 4 = .ok (.getfield 23, 3) := by decide +kernel
theorem dX4_owns_7 : decode cX4_owns 7 = .ok (.if_icmp .ge 21, 3) := by decide +kernel
theorem dX4_owns_28 : decode cX4_owns 28 = .ok (.iconst 0, 1) := by decide +kernel
theorem dX4_owns_29 : decode cX4_owns 29 = .ok (.ireturn, 1) := by decide +kernel
theorem dX4_owns_10 : decode cX4_owns 10 = .ok (.aload_n 0, 1) := by decide +kernel
theorem dX4_owns_11 : decode cX4_owns 11 = .ok (.getfield 15, 3) := by decide +kernel
theorem dX4_owns_14 : decode cX4_owns 14 = .ok (.iload_n 2, 1) := by decide +kernel
theorem dX4_owns_15 : decode cX4_owns 15 = .ok (.iaload, 1) := by decide +kernel
theorem dX4_owns_16 : decode cX4_owns 16 = .ok (.iload_n 1, 1) := by decide +kernel
theorem dX4_owns_17 : decode cX4_owns 17 = .ok (.if_icmp .ne 5, 3) := by decide +kernel
theorem dX4_owns_22 : decode cX4_owns 22 = .ok (.iinc 2 1, 3) := by decide +kernel
theorem dX4_owns_25 : decode cX4_owns 25 = .ok (.goto (-23), 3) := by decide +kernel
theorem dX4_owns_20 : decode cX4_owns 20 = .ok (.iconst 1, 1) := by decide +kernel
theorem dX4_owns_21 : decode cX4_owns 21 = .ok (.ireturn, 1) := by decide +kernel
set_option maxHeartbeats 4000000 in
set_option maxRecDepth 100000 in
theorem b_X4_owns {X : VC} {μ : Mem} (p : Nat) (b : Int) (hp : p < 6) (hb : 0 ≤ b ∧ b ≤ 255) (hW : WF μ) (K : vK X cX4_owns 3 RX4 wsX4_owns ({ frames := 0, cells := 0, slots := 0, locals := 0 } : Room)) (hret : ∀ (z : Int) (ν : Mem), (fun (z : Int) (ν : Mem) => ν = μ ∧ ((z = 0 ∧ ∀ k : Nat, (k : Int) < μ (37 + p) 3 → μ (43 + p) k ≠ b) ∨ (z = 1 ∧ ∃ k : Nat, (k : Int) < μ (37 + p) 3 ∧ μ (43 + p) k = b))) z ν → ∀ n pc k1 k2 lv, k1 ≤ 0 → k2 ≤ 0 → decode cX4_owns pc = .ok (.ireturn, 1) → vW X n pc k1 k2 lv [.int (iZ z)] ν) : vW X 3 0 0 0 [(0, .ref (vAd X (37 + p))), (1, .int (iZ b))] [] μ := by
  have hpl := hW.pl hp
  refine v_iconst K dX4_owns_0 ?_
  refine v_istore_n [(2, .int (iZ 0)), (0, .ref (vAd X (37 + p))), (1, .int (iZ b))] K dX4_owns_1 (by decide) rfl ?_
  have L2 : ∀ (fuel : Nat) (k : Nat) (hm : 6 - k < fuel) (hk : (k : Int) ≤ μ (37 + p) 3) (hn : ∀ j : Nat, j < k → μ (43 + p) j ≠ b), vW X 3 2 0 0 [(0, .ref (vAd X (37 + p))), (1, .int (iZ b)), (2, .int (iZ (k : Int)))] [] μ := by
    intro fuel
    induction fuel with
    | zero => intro k hm; exact absurd hm (Nat.not_lt_zero _)
    | succ fuel ih2 =>
      intro k hm hk hn
      refine v_iload_n 2 K dX4_owns_2 rfl ?_
      refine v_aload_n 0 K dX4_owns_3 rfl ?_
      refine v_get (c := (37 + p)) (k := 3) (C := RX4) (T := TX4) (N := 6) (v := .int (iZ (μ (37 + p) 3))) K (isO_Py (p := p) (by omega)) rfl (fun _ h => (List.mem_cons_of_mem _ (List.mem_append_left _ (List.mem_append_right _ h)))) (by decide) (List.mem_cons_of_mem _ (List.mem_append_left _ (List.mem_append_left _ (List.mem_of_getElem? (i := 0) rfl)))) rfl dX4_owns_4 rfl ?_
      refine v_icmp_ge 28 K dX4_owns_7 (by decide) (by omega) (by omega) (fun c7 => ?_) (fun c7 => ?_)
      · refine v_iconst K dX4_owns_28 ?_
        exact hret _ _ ⟨rfl, Or.inl ⟨rfl, fun j hj => hn j (by omega)⟩⟩ _ _ _ _ _ (Nat.le_of_ble_eq_true rfl) (Nat.le_of_ble_eq_true rfl) dX4_owns_29
      · have hwy := hW.wy hp (w := k) (by omega)
        refine v_aload_n 0 K dX4_owns_10 rfl ?_
        refine v_get (c := (37 + p)) (k := 4) (C := RX4) (T := TX4) (N := 6) (v := .ref (vAd X (43 + p))) K (isO_Py (p := p) (by omega)) rfl (fun _ h => (List.mem_cons_of_mem _ (List.mem_append_left _ (List.mem_append_right _ h)))) (by decide) (List.mem_cons_of_mem _ (List.mem_append_left _ (List.mem_append_left _ (List.mem_of_getElem? (i := 1) rfl)))) rfl dX4_owns_11 rfl ?_
        refine v_iload_n 2 K dX4_owns_14 rfl ?_
        refine v_iald (c := (43 + p)) k K (isI_wy (p := p) (by omega)) rfl (by omega) dX4_owns_15 ?_
        refine v_iload_n 1 K dX4_owns_16 rfl ?_
        refine v_icmp_ne 22 K dX4_owns_17 (by decide) (by omega) (by omega) (fun c17 => ?_) (fun c17 => ?_)
        · refine v_iinc 2 [(2, .int (iZ ((k : Int) + 1))), (0, .ref (vAd X (37 + p))), (1, .int (iZ b))] K dX4_owns_22 rfl (by decide) rfl ?_
          refine v_goto 2 K dX4_owns_25 (by decide) ?_
          refine v_sub [1, 2, 0] rfl ?_
          refine v_eq (lv1 := [(0, .ref (vAd X (37 + p))), (1, .int (iZ b)), (2, .int (iZ (((k + 1) : Nat) : Int)))]) (st1 := []) (v_c0 (v_c0 (v_cI (by first | rfl | omega) rfl))) rfl ?_
          exact ih2 (k + 1) (by omega) (by omega) (fun j hj => by rcases (show j < k ∨ j = k by omega) with q | q; exact hn j q; rw [q]; exact c17)
        · refine v_iconst K dX4_owns_20 ?_
          exact hret _ _ ⟨rfl, Or.inr ⟨rfl, k, c7, c17⟩⟩ _ _ _ _ _ (Nat.le_of_ble_eq_true rfl) (Nat.le_of_ble_eq_true rfl) dX4_owns_21
  refine v_sub [1, 2, 0] rfl ?_
  refine v_eq (lv1 := [(0, .ref (vAd X (37 + p))), (1, .int (iZ b)), (2, .int (iZ ((0 : Nat) : Int)))]) (st1 := []) (v_c0 (v_c0 (v_cI (by first | rfl | omega) rfl))) rfl ?_
  exact L2 (6 - 0 + 1) 0 (by omega) (by omega) (fun j hj => by omega)
theorem c_X4_owns (l : Launch) (hl : l.stackTraces = false) (D : va_G) (cy : Nat → ClassId) (ad : Nat → Nat) (μ : Mem) (p : Nat) (b : Int) (hp : p < 6) (hb : 0 ≤ b ∧ b ≤ 255) (hW : WF μ) : cI l yX4_owns wsX4_owns ({ frames := 0, cells := 0, slots := 0, locals := 0 } : Room) D cy ad μ [.ref (ad (37 + p)), .int (iZ b)] (fun (z : Int) (ν : Mem) => ν = μ ∧ ((z = 0 ∧ ∀ k : Nat, (k : Int) < μ (37 + p) 3 → μ (43 + p) k ≠ b) ∨ (z = 1 ∧ ∃ k : Nat, (k : Int) < μ (37 + p) 3 ∧ μ (43 + p) k = b))) :=
  m_int (av := (fun ad => [.ref (ad (37 + p)), .int (iZ b)])) hl (by decide) rfl rfl (Nat.le_of_ble_eq_true rfl) (fun z ν q => (nar_z (by have := q.2; omega)).1) (fun X K hret => b_X4_owns p b hp hb hW K hret)
theorem dX5_grown_0 : decode cX5_grown 0 = .ok (.aload_n 0, 1) := by decide +kernel
theorem dX5_grown_1 : decode cX5_grown 1 = .ok (.getfield 9, 3) := by decide +kernel
theorem dX5_grown_4 : decode cX5_grown 4 = .ok (.bipush 108, 2) := by decide +kernel
theorem dX5_grown_6 : decode cX5_grown 6 = .ok (.if_icmp .ne 10, 3) := by decide +kernel
theorem dX5_grown_16 : decode cX5_grown 16 = .ok (.aload_n 0, 1) := by decide +kernel
theorem dX5_grown_17 : decode cX5_grown 17 = .ok (.getfield 9, 3) := by decide +kernel
theorem dX5_grown_20 : decode cX5_grown 20 = .ok (.bipush 113, 2) := by decide +kernel
theorem dX5_grown_22 : decode cX5_grown 22 = .ok (.if_icmp .ne 12, 3) := by decide +kernel
theorem dX5_grown_34 : decode cX5_grown 34 = .ok (.aload_n 0, 1) := by decide +kernel
theorem dX5_grown_35 : decode cX5_grown 35 = .ok (.getfield 9, 3) := by decide +kernel
theorem dX5_grown_38 : decode cX5_grown 38 = .ok (.bipush 115, 2) := by decide +kernel
theorem dX5_grown_40 : decode cX5_grown 40 = .ok (.if_icmp .ne 21, 3) := by decide +kernel
theorem dX5_grown_61 : decode cX5_grown 61 = .ok (.iconst 0, 1) := by decide +kernel
theorem dX5_grown_62 : decode cX5_grown 62 = .ok (.ireturn, 1) := by decide +kernel
theorem dX5_grown_43 : decode cX5_grown 43 = .ok (.iload_n 1, 1) := by decide +kernel
theorem dX5_grown_44 : decode cX5_grown 44 = .ok (.ifCond .le 17, 3) := by decide +kernel
theorem dX5_grown_47 : decode cX5_grown 47 = .ok (.bipush 100, 2) := by decide +kernel
theorem dX5_grown_49 : decode cX5_grown 49 = .ok (.aload_n 0, 1) := by decide +kernel
theorem dX5_grown_50 : decode cX5_grown 50 = .ok (.getfield 33, 3) := by decide +kernel
theorem dX5_grown_53 : decode cX5_grown 53 = .ok (.imul, 1) := by decide +kernel
theorem dX5_grown_54 : decode cX5_grown 54 = .ok (.iload_n 1, 1) := by decide +kernel
theorem dX5_grown_55 : decode cX5_grown 55 = .ok (.iadd, 1) := by decide +kernel
theorem dX5_grown_56 : decode cX5_grown 56 = .ok (.iconst 1, 1) := by decide +kernel
theorem dX5_grown_57 : decode cX5_grown 57 = .ok (.isub, 1) := by decide +kernel
theorem dX5_grown_58 : decode cX5_grown 58 = .ok (.iload_n 1, 1) := by decide +kernel
theorem dX5_grown_59 : decode cX5_grown 59 = .ok (.idiv, 1) := by decide +kernel
theorem dX5_grown_60 : decode cX5_grown 60 = .ok (.ireturn, 1) := by decide +kernel
theorem dX5_grown_25 : decode cX5_grown 25 = .ok (.aload_n 0, 1) := by decide +kernel
theorem dX5_grown_26 : decode cX5_grown 26 = .ok (.getfield 33, 3) := by decide +kernel
theorem dX5_grown_29 : decode cX5_grown 29 = .ok (.iload_n 1, 1) := by decide +kernel
theorem dX5_grown_30 : decode cX5_grown 30 = .ok (.imul, 1) := by decide +kernel
theorem dX5_grown_31 : decode cX5_grown 31 = .ok (.iload_n 1, 1) := by decide +kernel
theorem dX5_grown_32 : decode cX5_grown 32 = .ok (.imul, 1) := by decide +kernel
theorem dX5_grown_33 : decode cX5_grown 33 = .ok (.ireturn, 1) := by decide +kernel
theorem dX5_grown_9 : decode cX5_grown 9 = .ok (.aload_n 0, 1) := by decide +kernel
theorem dX5_grown_10 : decode cX5_grown 10 = .ok (.getfield 33, 3) := by decide +kernel
theorem dX5_grown_13 : decode cX5_grown 13 = .ok (.iload_n 1, 1) := by decide +kernel
theorem dX5_grown_14 : decode cX5_grown 14 = .ok (.imul, 1) := by decide +kernel
theorem dX5_grown_15 : decode cX5_grown 15 = .ok (.ireturn, 1) := by decide +kernel
set_option maxHeartbeats 4000000 in
set_option maxRecDepth 100000 in
theorem b_X5_grown {X : VC} {μ : Mem} (r : Nat) (x : Nat) (hr : r < 8) (hx : 1 ≤ x ∧ x ≤ 18) (ha : 0 ≤ μ (21 + r) 0 ∧ μ (21 + r) 0 ≤ 20) (hk : 0 ≤ μ (21 + r) 2 ∧ μ (21 + r) 2 ≤ 65535) (K : vK X cX5_grown 2 RX5 wsX5_grown ({ frames := 0, cells := 0, slots := 0, locals := 0 } : Room)) (hret : ∀ (z : Int) (ν : Mem), (fun (z : Int) (ν : Mem) => z = grw (μ (21 + r) 2) (μ (21 + r) 0) (x : Int) ∧ ν = μ) z ν → ∀ n pc k1 k2 lv, k1 ≤ 0 → k2 ≤ 0 → decode cX5_grown pc = .ok (.ireturn, 1) → vW X n pc k1 k2 lv [.int (iZ z)] ν) : vW X 2 0 0 0 [(0, .ref (vAd X (21 + r))), (1, .int (iZ (x : Int)))] [] μ := by
  refine v_aload_n 0 K dX5_grown_0 rfl ?_
  refine v_get (c := (21 + r)) (k := 2) (C := RX5) (T := TX5) (N := 7) (v := .int (iZ (μ (21 + r) 2))) K (isO_Rs (r := r) (by omega)) rfl (fun _ h => (List.mem_cons_of_mem _ (List.mem_append_right _ h))) (by decide) (List.mem_cons_of_mem _ (List.mem_append_left _ (List.mem_of_getElem? (i := 0) rfl))) rfl dX5_grown_1 rfl ?_
  refine v_bipush K dX5_grown_4 (by decide) ?_
  refine v_icmp_ne 16 K dX5_grown_6 (by decide) (by omega) (by decide) (fun c6 => ?_) (fun c6 => ?_)
  · refine v_aload_n 0 K dX5_grown_16 rfl ?_
    refine v_get (c := (21 + r)) (k := 2) (C := RX5) (T := TX5) (N := 7) (v := .int (iZ (μ (21 + r) 2))) K (isO_Rs (r := r) (by omega)) rfl (fun _ h => (List.mem_cons_of_mem _ (List.mem_append_right _ h))) (by decide) (List.mem_cons_of_mem _ (List.mem_append_left _ (List.mem_of_getElem? (i := 0) rfl))) rfl dX5_grown_17 rfl ?_
    refine v_bipush K dX5_grown_20 (by decide) ?_
    refine v_icmp_ne 34 K dX5_grown_22 (by decide) (by omega) (by decide) (fun c22 => ?_) (fun c22 => ?_)
    · refine v_aload_n 0 K dX5_grown_34 rfl ?_
      refine v_get (c := (21 + r)) (k := 2) (C := RX5) (T := TX5) (N := 7) (v := .int (iZ (μ (21 + r) 2))) K (isO_Rs (r := r) (by omega)) rfl (fun _ h => (List.mem_cons_of_mem _ (List.mem_append_right _ h))) (by decide) (List.mem_cons_of_mem _ (List.mem_append_left _ (List.mem_of_getElem? (i := 0) rfl))) rfl dX5_grown_35 rfl ?_
      refine v_bipush K dX5_grown_38 (by decide) ?_
      refine v_icmp_ne 61 K dX5_grown_40 (by decide) (by omega) (by decide) (fun c40 => ?_) (fun c40 => ?_)
      · refine v_iconst K dX5_grown_61 ?_
        exact hret _ _ ⟨(by unfold grw; rw [if_neg c6, if_neg c22, if_neg c40]), rfl⟩ _ _ _ _ _ (Nat.le_of_ble_eq_true rfl) (Nat.le_of_ble_eq_true rfl) dX5_grown_62
      · refine v_iload_n 1 K dX5_grown_43 rfl ?_
        refine v_if_le 61 K dX5_grown_44 (by decide) (by omega) (fun c44 => (by exfalso; omega)) (fun c44 => ?_)
        refine v_bipush K dX5_grown_47 (by decide) ?_
        refine v_aload_n 0 K dX5_grown_49 rfl ?_
        refine v_get (c := (21 + r)) (k := 0) (C := RX5) (T := TX5) (N := 7) (v := .int (iZ (μ (21 + r) 0))) K (isO_Rs (r := r) (by omega)) rfl (fun _ h => (List.mem_cons_of_mem _ (List.mem_append_right _ h))) (by decide) (List.mem_cons_of_mem _ (List.mem_append_left _ (List.mem_of_getElem? (i := 1) rfl))) rfl dX5_grown_50 rfl ?_
        refine v_imul K dX5_grown_53 ?_
        refine v_iload_n 1 K dX5_grown_54 rfl ?_
        refine v_iadd K dX5_grown_55 ?_
        refine v_iconst K dX5_grown_56 ?_
        refine v_isub K dX5_grown_57 ?_
        refine v_iload_n 1 K dX5_grown_58 rfl ?_
        refine v_idiv (by omega) (by omega) K dX5_grown_59 ?_
        exact hret _ _ ⟨(by unfold grw; rw [if_neg c6, if_neg c22, if_pos c40]), rfl⟩ _ _ _ _ _ (Nat.le_of_ble_eq_true rfl) (Nat.le_of_ble_eq_true rfl) dX5_grown_60
    · refine v_aload_n 0 K dX5_grown_25 rfl ?_
      refine v_get (c := (21 + r)) (k := 0) (C := RX5) (T := TX5) (N := 7) (v := .int (iZ (μ (21 + r) 0))) K (isO_Rs (r := r) (by omega)) rfl (fun _ h => (List.mem_cons_of_mem _ (List.mem_append_right _ h))) (by decide) (List.mem_cons_of_mem _ (List.mem_append_left _ (List.mem_of_getElem? (i := 1) rfl))) rfl dX5_grown_26 rfl ?_
      refine v_iload_n 1 K dX5_grown_29 rfl ?_
      refine v_imul K dX5_grown_30 ?_
      refine v_iload_n 1 K dX5_grown_31 rfl ?_
      refine v_imul K dX5_grown_32 ?_
      exact hret _ _ ⟨(by unfold grw; rw [if_neg c6, if_pos c22]), rfl⟩ _ _ _ _ _ (Nat.le_of_ble_eq_true rfl) (Nat.le_of_ble_eq_true rfl) dX5_grown_33
  · refine v_aload_n 0 K dX5_grown_9 rfl ?_
    refine v_get (c := (21 + r)) (k := 0) (C := RX5) (T := TX5) (N := 7) (v := .int (iZ (μ (21 + r) 0))) K (isO_Rs (r := r) (by omega)) rfl (fun _ h => (List.mem_cons_of_mem _ (List.mem_append_right _ h))) (by decide) (List.mem_cons_of_mem _ (List.mem_append_left _ (List.mem_of_getElem? (i := 1) rfl))) rfl dX5_grown_10 rfl ?_
    refine v_iload_n 1 K dX5_grown_13 rfl ?_
    refine v_imul K dX5_grown_14 ?_
    exact hret _ _ ⟨(by unfold grw; rw [if_pos c6]), rfl⟩ _ _ _ _ _ (Nat.le_of_ble_eq_true rfl) (Nat.le_of_ble_eq_true rfl) dX5_grown_15
theorem c_X5_grown (l : Launch) (hl : l.stackTraces = false) (D : va_G) (cy : Nat → ClassId) (ad : Nat → Nat) (μ : Mem) (r : Nat) (x : Nat) (hr : r < 8) (hx : 1 ≤ x ∧ x ≤ 18) (ha : 0 ≤ μ (21 + r) 0 ∧ μ (21 + r) 0 ≤ 20) (hk : 0 ≤ μ (21 + r) 2 ∧ μ (21 + r) 2 ≤ 65535) : cI l yX5_grown wsX5_grown ({ frames := 0, cells := 0, slots := 0, locals := 0 } : Room) D cy ad μ [.ref (ad (21 + r)), .int (iZ (x : Int))] (fun (z : Int) (ν : Mem) => z = grw (μ (21 + r) 2) (μ (21 + r) 0) (x : Int) ∧ ν = μ) :=
  m_int (av := (fun ad => [.ref (ad (21 + r)), .int (iZ (x : Int))])) hl (by decide) rfl rfl (Nat.le_of_ble_eq_true rfl) (fun _ _ _ => rfl) (fun X K hret => b_X5_grown r x hr hx ha hk K hret)
theorem dX5_fillDelays_0 : decode cX5_fillDelays 0 = .ok (.iconst 1, 1) := by decide +kernel
theorem dX5_fillDelays_1 : decode cX5_fillDelays 1 = .ok (.istore_n 1, 1) := by decide +kernel
theorem dX5_fillDelays_2 : decode cX5_fillDelays 2 = .ok (.iload_n 1, 1) := by decide +kernel
theorem dX5_fillDelays_3 : decode cX5_fillDelays 3 = .ok (.bipush 18, 2) := by decide +kernel
theorem dX5_fillDelays_5 : decode cX5_fillDelays 5 = .ok (.if_icmp .gt 25, 3) := by decide +kernel
theorem dX5_fillDelays_30 : decode cX5_fillDelays 30 = .ok (.return_, 1) := by decide +kernel
theorem dX5_fillDelays_8 : decode cX5_fillDelays 8 = .ok (.aload_n 0, 1) := by decide +kernel
theorem dX5_fillDelays_9 : decode cX5_fillDelays 9 = .ok (.getfield 22, 3) := by decide +kernel
theorem dX5_fillDelays_12 : decode cX5_fillDelays 12 = .ok (.iload_n 1, 1) := by decide +kernel
theorem dX5_fillDelays_13 : decode cX5_fillDelays 13 = .ok (.aload_n 0, 1) := by decide +kernel
theorem dX5_fillDelays_14 : decode cX5_fillDelays 14 = .ok (.getfield 26, 3) := by decide +kernel
theorem dX5_fillDelays_17 : decode cX5_fillDelays 17 = .ok (.aload_n 0, 1) := by decide +kernel
theorem dX5_fillDelays_18 : decode cX5_fillDelays 18 = .ok (.iload_n 1, 1) := by decide +kernel
theorem dX5_fillDelays_19 : decode cX5_fillDelays 19 = .ok (.invokevirtual 29, 3) := by decide +kernel
set_option maxRecDepth 20000 in
theorem ggX5_fillDelays_X5_grown : GoodIn wsX5_fillDelays wsX5_grown := goodIn_r _ [7, 8, 9, 10, 11, 12, 13, 14, 15, 16] (by decide +kernel) (by decide +kernel)
set_option maxRecDepth 20000 in
theorem gX5_fillDelays_X5_grown : GoodIn wsX5_fillDelays (wsV RX5 29 RX5 yX5_grown wsX5_grown) := goodIn_app (goodIn_of _ (by decide +kernel)) ggX5_fillDelays_X5_grown
theorem dX5_fillDelays_22 : decode cX5_fillDelays 22 = .ok (.iadd, 1) := by decide +kernel
theorem dX5_fillDelays_23 : decode cX5_fillDelays 23 = .ok (.iastore, 1) := by decide +kernel
theorem dX5_fillDelays_24 : decode cX5_fillDelays 24 = .ok (.iinc 1 1, 3) := by decide +kernel
theorem dX5_fillDelays_27 : decode cX5_fillDelays 27 = .ok (.goto (-25), 3) := by decide +kernel
set_option maxHeartbeats 4000000 in
set_option maxRecDepth 100000 in
theorem b_X5_fillDelays {X : VC} {μ : Mem} (r : Nat) (hr : r < 8) (ha : 0 ≤ μ (21 + r) 0 ∧ μ (21 + r) 0 ≤ 20) (hk : 0 ≤ μ (21 + r) 2 ∧ μ (21 + r) 2 ≤ 65535) (K : vK X cX5_fillDelays 2 RX5 wsX5_fillDelays ({ frames := 1, cells := 0, slots := 0, locals := 21 } : Room)) (hret : ∀ (ν : Mem), (fun (ν : Mem) => FD μ ν r 18) ν → ∀ n pc k1 k2 lv, k1 ≤ 0 → k2 ≤ 0 → decode cX5_fillDelays pc = .ok (.return_, 1) → vW X n pc k1 k2 lv [] ν) : vW X 2 0 0 0 [(0, .ref (vAd X (21 + r)))] [] μ := by
  refine v_iconst K dX5_fillDelays_0 ?_
  refine v_istore_n [(1, .int (iZ 1)), (0, .ref (vAd X (21 + r)))] K dX5_fillDelays_1 (by decide) rfl ?_
  have L2 : ∀ (fuel : Nat) (x : Nat) (ν : Mem) (hm : 20 - x < fuel) (hx : 1 ≤ x ∧ x ≤ 19) (hF : FD μ ν r (x - 1)), vW X 2 2 0 0 [(0, .ref (vAd X (21 + r))), (1, .int (iZ (x : Int)))] [] ν := by
    intro fuel
    induction fuel with
    | zero => intro x ν hm; exact absurd hm (Nat.not_lt_zero _)
    | succ fuel ih2 =>
      intro x ν hm hx hF
      refine v_iload_n 1 K dX5_fillDelays_2 rfl ?_
      refine v_bipush K dX5_fillDelays_3 (by decide) ?_
      refine v_icmp_gt 30 K dX5_fillDelays_5 (by decide) (by omega) (by decide) (fun c5 => ?_) (fun c5 => ?_)
      · exact hret _ (by rw [show (18 : Nat) = x - 1 by omega]; exact hF) _ _ _ _ _ (Nat.le_of_ble_eq_true rfl) (Nat.le_of_ble_eq_true rfl) dX5_fillDelays_30
      · have e1 : ν (21 + r) 0 = μ (21 + r) 0 := by rw [hF.1 _ (by omega)]
        have e2 : ν (21 + r) 2 = μ (21 + r) 2 := by rw [hF.1 _ (by omega)]
        refine v_aload_n 0 K dX5_fillDelays_8 rfl ?_
        refine v_get (c := (21 + r)) (k := 6) (C := RX5) (T := TX5) (N := 7) (v := .ref (vAd X (29 + r))) K (isO_Rs (r := r) (by omega)) rfl (fun _ h => (List.mem_cons_of_mem _ (List.mem_append_left _ (List.mem_append_right _ h)))) (by decide) (List.mem_cons_of_mem _ (List.mem_append_left _ (List.mem_append_left _ (List.mem_of_getElem? (i := 0) rfl)))) rfl dX5_fillDelays_9 rfl ?_
        refine v_iload_n 1 K dX5_fillDelays_12 rfl ?_
        refine v_aload_n 0 K dX5_fillDelays_13 rfl ?_
        refine v_get (c := (21 + r)) (k := 1) (C := RX5) (T := TX5) (N := 7) (v := .int (iZ (ν (21 + r) 1))) K (isO_Rs (r := r) (by omega)) rfl (fun _ h => (List.mem_cons_of_mem _ (List.mem_append_left _ (List.mem_append_right _ h)))) (by decide) (List.mem_cons_of_mem _ (List.mem_append_left _ (List.mem_append_left _ (List.mem_of_getElem? (i := 1) rfl)))) rfl dX5_fillDelays_14 rfl ?_
        refine v_aload_n 0 K dX5_fillDelays_17 rfl ?_
        refine v_iload_n 1 K dX5_fillDelays_18 rfl ?_
        refine v_callVir (c := (21 + r)) (As := [.int (iZ (x : Int))]) (rest := [.int (iZ (ν (21 + r) 1)), .int (iZ (x : Int)), .ref (vAd X (29 + r))]) K (isO_Rs (r := r) (by omega)) rfl 1 (c_X5_grown X.1.2.1 K.2.2.2.2.2.2 _ _ _ ν r x hr (by omega) (by rw [e1]; exact ha) (by rw [e2]; exact hk)) gX5_fillDelays_X5_grown rfl rfl rfl (by decide +kernel) ⟨(Nat.le_of_ble_eq_true rfl), (Nat.le_of_ble_eq_true rfl)⟩ rfl rfl (Nat.le_of_ble_eq_true rfl) dX5_fillDelays_19 ⟨(Nat.le_of_ble_eq_true rfl), (Nat.le_of_ble_eq_true rfl)⟩ ?_
        refine v_iadd K dX5_fillDelays_22 ?_
        refine v_top (b := (μ (21 + r) 1 + grw (μ (21 + r) 2) (μ (21 + r) 0) (x : Int))) (by rw [e1, e2, hF.1 (21 + r) (by omega)]) ?_
        refine v_iast (c := (29 + r)) x K (isI_dl (r := r) (by omega)) rfl (by omega) dX5_fillDelays_23 ?_
        refine v_iinc 1 [(1, .int (iZ ((x : Int) + 1))), (0, .ref (vAd X (21 + r)))] K dX5_fillDelays_24 rfl (by decide) rfl ?_
        refine v_goto 2 K dX5_fillDelays_27 (by decide) ?_
        refine v_sub [1, 0] rfl ?_
        refine v_eq (lv1 := [(0, .ref (vAd X (21 + r))), (1, .int (iZ (((x + 1) : Nat) : Int)))]) (st1 := []) (v_c0 (v_cI (by first | rfl | omega) rfl)) rfl ?_
        exact ih2 (x + 1) (upM ν (29 + r) x (μ (21 + r) 1 + grw (μ (21 + r) 2) (μ (21 + r) 0) (x : Int))) (by omega) (by omega) (FD_s hF (by omega) (by omega) rfl)
  refine v_sub [1, 0] rfl ?_
  refine v_eq (lv1 := [(0, .ref (vAd X (21 + r))), (1, .int (iZ ((1 : Nat) : Int)))]) (st1 := []) (v_c0 (v_cI (by first | rfl | omega) rfl)) rfl ?_
  exact L2 (20 - 1 + 1) 1 μ (by omega) (by omega) FD_0
theorem c_X5_fillDelays (l : Launch) (hl : l.stackTraces = false) (D : va_G) (cy : Nat → ClassId) (ad : Nat → Nat) (μ : Mem) (r : Nat) (hr : r < 8) (ha : 0 ≤ μ (21 + r) 0 ∧ μ (21 + r) 0 ≤ 20) (hk : 0 ≤ μ (21 + r) 2 ∧ μ (21 + r) 2 ≤ 65535) : cV l yX5_fillDelays wsX5_fillDelays ({ frames := 1, cells := 0, slots := 0, locals := 21 } : Room) D cy ad μ [.ref (ad (21 + r))] (fun (ν : Mem) => FD μ ν r 18) :=
  m_void (av := (fun ad => [.ref (ad (21 + r))])) hl (by decide) rfl rfl (Nat.le_of_ble_eq_true rfl) (fun X K hret => b_X5_fillDelays r hr ha hk K hret)
theorem dX5_delayBy_0 : decode cX5_delayBy 0 = .ok (.iload_n 1, 1) := by decide +kernel
theorem dX5_delayBy_1 : decode cX5_delayBy 1 = .ok (.ifCond .lt 9, 3) := by decide +kernel
theorem dX5_delayBy_10 : decode cX5_delayBy 10 = .ok (.iconst 0, 1) := by decide +kernel
theorem dX5_delayBy_11 : decode cX5_delayBy 11 = .ok (.goto 9, 3) := by decide +kernel
theorem dX5_delayBy_20 : decode cX5_delayBy 20 = .ok (.ireturn, 1) := by decide +kernel
theorem dX5_delayBy_4 : decode cX5_delayBy 4 = .ok (.iload_n 1, 1) := by decide +kernel
theorem dX5_delayBy_5 : decode cX5_delayBy 5 = .ok (.bipush 18, 2) := by decide +kernel
theorem dX5_delayBy_7 : decode cX5_delayBy 7 = .ok (.if_icmp .le 7, 3) := by decide +kernel
theorem dX5_delayBy_14 : decode cX5_delayBy 14 = .ok (.aload_n 0, 1) := by decide +kernel
theorem dX5_delayBy_15 : decode cX5_delayBy 15 = .ok (.getfield 22, 3) := by decide +kernel
theorem dX5_delayBy_18 : decode cX5_delayBy 18 = .ok (.iload_n 1, 1) := by decide +kernel
theorem dX5_delayBy_19 : decode cX5_delayBy 19 = .ok (.iaload, 1) := by decide +kernel
set_option maxHeartbeats 4000000 in
set_option maxRecDepth 100000 in
theorem b_X5_delayBy {X : VC} {μ : Mem} (r : Nat) (x : Int) (hr : r < 8) (hx : -100000 ≤ x ∧ x ≤ 100000) (K : vK X cX5_delayBy 2 RX5 wsX5_delayBy ({ frames := 0, cells := 0, slots := 0, locals := 0 } : Room)) (hret : ∀ (z : Int) (ν : Mem), (fun (z : Int) (ν : Mem) => z = dly μ r x ∧ ν = μ) z ν → ∀ n pc k1 k2 lv, k1 ≤ 0 → k2 ≤ 0 → decode cX5_delayBy pc = .ok (.ireturn, 1) → vW X n pc k1 k2 lv [.int (iZ z)] ν) : vW X 2 0 0 0 [(0, .ref (vAd X (21 + r))), (1, .int (iZ x))] [] μ := by
  refine v_iload_n 1 K dX5_delayBy_0 rfl ?_
  refine v_if_lt 10 K dX5_delayBy_1 (by decide) (by omega) (fun c1 => ?_) (fun c1 => ?_)
  · refine v_iconst K dX5_delayBy_10 ?_
    refine v_goto 20 K dX5_delayBy_11 (by decide) ?_
    exact hret _ _ ⟨(by unfold dly; rw [if_pos (by omega)]), rfl⟩ _ _ _ _ _ (Nat.le_of_ble_eq_true rfl) (Nat.le_of_ble_eq_true rfl) dX5_delayBy_20
  · refine v_iload_n 1 K dX5_delayBy_4 rfl ?_
    refine v_bipush K dX5_delayBy_5 (by decide) ?_
    refine v_icmp_le 14 K dX5_delayBy_7 (by decide) (by omega) (by decide) (fun c7 => ?_) (fun c7 => ?_)
    · refine v_aload_n 0 K dX5_delayBy_14 rfl ?_
      refine v_get (c := (21 + r)) (k := 6) (C := RX5) (T := TX5) (N := 7) (v := .ref (vAd X (29 + r))) K (isO_Rs (r := r) (by omega)) rfl (fun _ h => (List.mem_cons_of_mem _ (List.mem_append_left _ (List.mem_append_right _ h)))) (by decide) (List.mem_cons_of_mem _ (List.mem_append_left _ (List.mem_append_left _ (List.mem_of_getElem? (i := 0) rfl)))) rfl dX5_delayBy_15 rfl ?_
      refine v_iload_n 1 K dX5_delayBy_18 rfl ?_
      refine v_iald (c := (29 + r)) ((x).toNat) K (isI_dl (r := r) (by omega)) (by omega) (by omega) dX5_delayBy_19 ?_
      exact hret _ _ ⟨(by unfold dly; rw [if_neg (by omega)]), rfl⟩ _ _ _ _ _ (Nat.le_of_ble_eq_true rfl) (Nat.le_of_ble_eq_true rfl) dX5_delayBy_20
    · refine v_iconst K dX5_delayBy_10 ?_
      refine v_goto 20 K dX5_delayBy_11 (by decide) ?_
      exact hret _ _ ⟨(by unfold dly; rw [if_pos (by omega)]), rfl⟩ _ _ _ _ _ (Nat.le_of_ble_eq_true rfl) (Nat.le_of_ble_eq_true rfl) dX5_delayBy_20
theorem c_X5_delayBy (l : Launch) (hl : l.stackTraces = false) (D : va_G) (cy : Nat → ClassId) (ad : Nat → Nat) (μ : Mem) (r : Nat) (x : Int) (hr : r < 8) (hx : -100000 ≤ x ∧ x ≤ 100000) : cI l yX5_delayBy wsX5_delayBy ({ frames := 0, cells := 0, slots := 0, locals := 0 } : Room) D cy ad μ [.ref (ad (21 + r)), .int (iZ x)] (fun (z : Int) (ν : Mem) => z = dly μ r x ∧ ν = μ) :=
  m_int (av := (fun ad => [.ref (ad (21 + r)), .int (iZ x)])) hl (by decide) rfl rfl (Nat.le_of_ble_eq_true rfl) (fun _ _ _ => rfl) (fun X K hret => b_X5_delayBy r x hr hx K hret)
theorem dX5_marginBy_0 : decode cX5_marginBy 0 = .ok (.iload_n 1, 1) := by decide +kernel
theorem dX5_marginBy_1 : decode cX5_marginBy 1 = .ok (.iconst 1, 1) := by decide +kernel
theorem dX5_marginBy_2 : decode cX5_marginBy 2 = .ok (.if_icmp .ge 7, 3) := by decide +kernel
theorem dX5_marginBy_9 : decode cX5_marginBy 9 = .ok (.iconst 0, 1) := by decide +kernel
theorem dX5_marginBy_10 : decode cX5_marginBy 10 = .ok (.iload_n 1, 1) := by decide +kernel
theorem dX5_marginBy_11 : decode cX5_marginBy 11 = .ok (.iconst 1, 1) := by decide +kernel
theorem dX5_marginBy_12 : decode cX5_marginBy 12 = .ok (.isub, 1) := by decide +kernel
theorem dX5_marginBy_13 : decode cX5_marginBy 13 = .ok (.aload_n 0, 1) := by decide +kernel
theorem dX5_marginBy_14 : decode cX5_marginBy 14 = .ok (.iload_n 1, 1) := by decide +kernel
theorem dX5_marginBy_15 : decode cX5_marginBy 15 = .ok (.invokevirtual 36, 3) := by decide +kernel
set_option maxRecDepth 20000 in
theorem ggX5_marginBy_X5_delayBy : GoodIn wsX5_marginBy wsX5_delayBy := goodIn_ca (goodIn_r _ [9, 10, 11, 12, 13, 14, 15, 16, 17] (by decide +kernel) (by decide +kernel)) (goodIn_sub (fun _ h => List.mem_cons_of_mem _ (List.mem_append_right _ h)) (by decide +kernel))
set_option maxRecDepth 20000 in
theorem gX5_marginBy_X5_delayBy : GoodIn wsX5_marginBy (wsV RX5 36 RX5 yX5_delayBy wsX5_delayBy) := goodIn_app (goodIn_of _ (by decide +kernel)) ggX5_marginBy_X5_delayBy
theorem dX5_marginBy_18 : decode cX5_marginBy 18 = .ok (.aload_n 0, 1) := by decide +kernel
theorem dX5_marginBy_19 : decode cX5_marginBy 19 = .ok (.iload_n 1, 1) := by decide +kernel
theorem dX5_marginBy_20 : decode cX5_marginBy 20 = .ok (.iconst 1, 1) := by decide +kernel
theorem dX5_marginBy_21 : decode cX5_marginBy 21 = .ok (.isub, 1) := by decide +kernel
theorem dX5_marginBy_22 : decode cX5_marginBy 22 = .ok (.invokevirtual 36, 3) := by decide +kernel
theorem dX5_marginBy_25 : decode cX5_marginBy 25 = .ok (.isub, 1) := by decide +kernel
theorem dX5_marginBy_26 : decode cX5_marginBy 26 = .ok (.imul, 1) := by decide +kernel
theorem dX5_marginBy_27 : decode cX5_marginBy 27 = .ok (.invokestatic 39, 3) := by decide +kernel
theorem dX5_marginBy_30 : decode cX5_marginBy 30 = .ok (.ireturn, 1) := by decide +kernel
theorem dX5_marginBy_5 : decode cX5_marginBy 5 = .ok (.iconst 0, 1) := by decide +kernel
theorem dX5_marginBy_6 : decode cX5_marginBy 6 = .ok (.goto 24, 3) := by decide +kernel
set_option maxHeartbeats 4000000 in
set_option maxRecDepth 100000 in
theorem b_X5_marginBy {X : VC} {μ : Mem} (r : Nat) (x : Int) (hr : r < 8) (hx : 0 ≤ x ∧ x ≤ 18) (hW : WF μ) (K : vK X cX5_marginBy 2 RX5 wsX5_marginBy ({ frames := 1, cells := 0, slots := 0, locals := 21 } : Room)) (hret : ∀ (z : Int) (ν : Mem), (fun (z : Int) (ν : Mem) => z = mrg μ r x ∧ ν = μ) z ν → ∀ n pc k1 k2 lv, k1 ≤ 0 → k2 ≤ 0 → decode cX5_marginBy pc = .ok (.ireturn, 1) → vW X n pc k1 k2 lv [.int (iZ z)] ν) : vW X 2 0 0 0 [(0, .ref (vAd X (21 + r))), (1, .int (iZ x))] [] μ := by
  refine v_iload_n 1 K dX5_marginBy_0 rfl ?_
  refine v_iconst K dX5_marginBy_1 ?_
  refine v_icmp_ge 9 K dX5_marginBy_2 (by decide) (by omega) (by decide) (fun c2 => ?_) (fun c2 => ?_)
  · refine v_iconst K dX5_marginBy_9 ?_
    refine v_iload_n 1 K dX5_marginBy_10 rfl ?_
    refine v_iconst K dX5_marginBy_11 ?_
    refine v_isub K dX5_marginBy_12 ?_
    refine v_aload_n 0 K dX5_marginBy_13 rfl ?_
    refine v_iload_n 1 K dX5_marginBy_14 rfl ?_
    refine v_callVir (c := (21 + r)) (As := [.int (iZ x)]) (rest := [.int (iZ (x - 1)), .int (iZ 0)]) K (isO_Rs (r := r) (by omega)) rfl 1 (c_X5_delayBy X.1.2.1 K.2.2.2.2.2.2 _ _ _ μ r x hr (by omega)) gX5_marginBy_X5_delayBy rfl rfl rfl (by decide +kernel) ⟨(Nat.le_of_ble_eq_true rfl), (Nat.le_of_ble_eq_true rfl)⟩ rfl rfl (Nat.le_of_ble_eq_true rfl) dX5_marginBy_15 ⟨(Nat.le_of_ble_eq_true rfl), (Nat.le_of_ble_eq_true rfl)⟩ ?_
    refine v_aload_n 0 K dX5_marginBy_18 rfl ?_
    refine v_iload_n 1 K dX5_marginBy_19 rfl ?_
    refine v_iconst K dX5_marginBy_20 ?_
    refine v_isub K dX5_marginBy_21 ?_
    refine v_callVir (c := (21 + r)) (As := [.int (iZ (x - 1))]) (rest := [.int (iZ (dly μ r x)), .int (iZ (x - 1)), .int (iZ 0)]) K (isO_Rs (r := r) (by omega)) rfl 1 (c_X5_delayBy X.1.2.1 K.2.2.2.2.2.2 _ _ _ μ r (x - 1) hr (by omega)) gX5_marginBy_X5_delayBy rfl rfl rfl (by decide +kernel) ⟨(Nat.le_of_ble_eq_true rfl), (Nat.le_of_ble_eq_true rfl)⟩ rfl rfl (Nat.le_of_ble_eq_true rfl) dX5_marginBy_22 ⟨(Nat.le_of_ble_eq_true rfl), (Nat.le_of_ble_eq_true rfl)⟩ ?_
    refine v_isub K dX5_marginBy_25 ?_
    refine v_imul K dX5_marginBy_26 ?_
    refine v_mmax (by decide) (by have h1 := dly_rng hW hr x; have h2 := dly_rng hW hr (x - 1); exact mrg_rng hx h1 h2) K (List.mem_cons_of_mem _ (List.mem_append_left _ (List.mem_append_left _ (List.mem_of_getElem? (i := 0) rfl)))) (List.mem_cons_of_mem _ (List.mem_append_left _ (List.mem_append_left _ (List.mem_of_getElem? (i := 1) rfl)))) (List.mem_cons_of_mem _ (List.mem_append_left _ (List.mem_append_left _ (List.mem_of_getElem? (i := 2) rfl)))) (List.mem_cons_of_mem _ (List.mem_append_left _ (List.mem_append_left _ (List.mem_of_getElem? (i := 3) rfl)))) (Nat.le_of_ble_eq_true rfl) (Nat.le_of_ble_eq_true rfl) ⟨(Nat.le_of_ble_eq_true rfl), (Nat.le_of_ble_eq_true rfl)⟩ dX5_marginBy_27 ?_
    exact hret _ _ ⟨(by unfold mrg; rw [if_neg (by omega)]), rfl⟩ _ _ _ _ _ (Nat.le_of_ble_eq_true rfl) (Nat.le_of_ble_eq_true rfl) dX5_marginBy_30
  · refine v_iconst K dX5_marginBy_5 ?_
    refine v_goto 30 K dX5_marginBy_6 (by decide) ?_
    exact hret _ _ ⟨(by unfold mrg; rw [if_pos (by omega)]), rfl⟩ _ _ _ _ _ (Nat.le_of_ble_eq_true rfl) (Nat.le_of_ble_eq_true rfl) dX5_marginBy_30
theorem c_X5_marginBy (l : Launch) (hl : l.stackTraces = false) (D : va_G) (cy : Nat → ClassId) (ad : Nat → Nat) (μ : Mem) (r : Nat) (x : Int) (hr : r < 8) (hx : 0 ≤ x ∧ x ≤ 18) (hW : WF μ) : cI l yX5_marginBy wsX5_marginBy ({ frames := 1, cells := 0, slots := 0, locals := 21 } : Room) D cy ad μ [.ref (ad (21 + r)), .int (iZ x)] (fun (z : Int) (ν : Mem) => z = mrg μ r x ∧ ν = μ) :=
  m_int (av := (fun ad => [.ref (ad (21 + r)), .int (iZ x)])) hl (by decide) rfl rfl (Nat.le_of_ble_eq_true rfl) (fun _ _ _ => rfl) (fun X K hret => b_X5_marginBy r x hr hx hW K hret)
theorem dX0_putResource_0 : decode cX0_putResource 0 = .ok (.aload_n 0, 1) := by decide +kernel
theorem dX0_putResource_1 : decode cX0_putResource 1 = .ok (.getfield 25, 3) := by decide +kernel
theorem dX0_putResource_4 : decode cX0_putResource 4 = .ok (.istore 4, 2) := by decide +kernel
theorem dX0_putResource_6 : decode cX0_putResource 6 = .ok (.aload_n 0, 1) := by decide +kernel
theorem dX0_putResource_7 : decode cX0_putResource 7 = .ok (.getfield 11, 3) := by decide +kernel
theorem dX0_putResource_10 : decode cX0_putResource 10 = .ok (.iload 4, 2) := by decide +kernel
theorem dX0_putResource_12 : decode cX0_putResource 12 = .ok (.aaload, 1) := by decide +kernel
theorem dX0_putResource_13 : decode cX0_putResource 13 = .ok (.iload_n 1, 1) := by decide +kernel
theorem dX0_putResource_14 : decode cX0_putResource 14 = .ok (.putfield 29, 3) := by decide +kernel
theorem dX0_putResource_17 : decode cX0_putResource 17 = .ok (.aload_n 0, 1) := by decide +kernel
theorem dX0_putResource_18 : decode cX0_putResource 18 = .ok (.getfield 11, 3) := by decide +kernel
theorem dX0_putResource_21 : decode cX0_putResource 21 = .ok (.iload 4, 2) := by decide +kernel
theorem dX0_putResource_23 : decode cX0_putResource 23 = .ok (.aaload, 1) := by decide +kernel
theorem dX0_putResource_24 : decode cX0_putResource 24 = .ok (.iload_n 2, 1) := by decide +kernel
theorem dX0_putResource_25 : decode cX0_putResource 25 = .ok (.putfield 33, 3) := by decide +kernel
theorem dX0_putResource_28 : decode cX0_putResource 28 = .ok (.aload_n 0, 1) := by decide +kernel
theorem dX0_putResource_29 : decode cX0_putResource 29 = .ok (.getfield 11, 3) := by decide +kernel
theorem dX0_putResource_32 : decode cX0_putResource 32 = .ok (.iload 4, 2) := by decide +kernel
theorem dX0_putResource_34 : decode cX0_putResource 34 = .ok (.aaload, 1) := by decide +kernel
theorem dX0_putResource_35 : decode cX0_putResource 35 = .ok (.iload_n 3, 1) := by decide +kernel
theorem dX0_putResource_36 : decode cX0_putResource 36 = .ok (.putfield 36, 3) := by decide +kernel
theorem dX0_putResource_39 : decode cX0_putResource 39 = .ok (.aload_n 0, 1) := by decide +kernel
theorem dX0_putResource_40 : decode cX0_putResource 40 = .ok (.getfield 11, 3) := by decide +kernel
theorem dX0_putResource_43 : decode cX0_putResource 43 = .ok (.iload 4, 2) := by decide +kernel
theorem dX0_putResource_45 : decode cX0_putResource 45 = .ok (.aaload, 1) := by decide +kernel
theorem dX0_putResource_46 : decode cX0_putResource 46 = .ok (.invokevirtual 39, 3) := by decide +kernel
set_option maxRecDepth 20000 in
theorem ggX0_putResource_X5_fillDelays : GoodIn wsX0_putResource wsX5_fillDelays := goodIn_ca (goodIn_r _ [10, 11, 12, 13, 14, 15, 9, 16, 17, 18, 23, 24, 25, 26, 27, 28, 29] (by decide +kernel) (by decide +kernel)) (goodIn_sub (fun _ h => List.mem_cons_of_mem _ (List.mem_append_right _ h)) (by decide +kernel))
set_option maxRecDepth 20000 in
theorem gX0_putResource_X5_fillDelays : GoodIn wsX0_putResource (wsV RX0 39 RX5 yX5_fillDelays wsX5_fillDelays) := goodIn_app (goodIn_of _ (by decide +kernel)) ggX0_putResource_X5_fillDelays
theorem dX0_putResource_49 : decode cX0_putResource 49 = .ok (.aload_n 0, 1) := by decide +kernel
theorem dX0_putResource_50 : decode cX0_putResource 50 = .ok (.dup, 1) := by decide +kernel
theorem dX0_putResource_51 : decode cX0_putResource 51 = .ok (.getfield 25, 3) := by decide +kernel
theorem dX0_putResource_54 : decode cX0_putResource 54 = .ok (.iconst 1, 1) := by decide +kernel
theorem dX0_putResource_55 : decode cX0_putResource 55 = .ok (.iadd, 1) := by decide +kernel
theorem dX0_putResource_56 : decode cX0_putResource 56 = .ok (.putfield 25, 3) := by decide +kernel
theorem dX0_putResource_59 : decode cX0_putResource 59 = .ok (.iload 4, 2) := by decide +kernel
theorem dX0_putResource_61 : decode cX0_putResource 61 = .ok (.ireturn, 1) := by decide +kernel
set_option maxHeartbeats 4000000 in
set_option maxRecDepth 100000 in
theorem b_X0_putResource {X : VC} {μ : Mem} (k : Int) (a : Int) (b : Int) (hk : 0 ≤ k ∧ k ≤ 65535) (ha : 0 ≤ a ∧ a ≤ 20) (hrc : 0 ≤ μ 1 2 ∧ μ 1 2 < 8) (K : vK X cX0_putResource 5 RX0 wsX0_putResource ({ frames := 2, cells := 0, slots := 0, locals := 42 } : Room)) (hret : ∀ (z : Int) (ν : Mem), (fun (z : Int) (ν : Mem) => z = μ 1 2 ∧ RPut μ ν (μ 1 2).toNat k a b) z ν → ∀ n pc k1 k2 lv, k1 ≤ 0 → k2 ≤ 0 → decode cX0_putResource pc = .ok (.ireturn, 1) → vW X n pc k1 k2 lv [.int (iZ z)] ν) : vW X 5 0 0 0 [(0, .ref (vAd X 1)), (1, .int (iZ k)), (2, .int (iZ a)), (3, .int (iZ b))] [] μ := by
  obtain ⟨r, hr⟩ := nat_of hrc.1
  have hr8 : r < 8 := by omega
  refine v_aload_n 0 K dX0_putResource_0 rfl ?_
  refine v_get (c := 1) (k := 2) (C := RX0) (T := TX0) (N := 4) (v := .int (iZ (μ 1 2))) K isO_Bd rfl (fun _ h => (List.mem_cons_of_mem _ (List.mem_append_left _ (List.mem_append_left _ (List.mem_append_right _ h))))) (by decide) (List.mem_cons_of_mem _ (List.mem_append_left _ (List.mem_append_left _ (List.mem_append_left _ (List.mem_of_getElem? (i := 0) rfl))))) rfl dX0_putResource_1 rfl ?_
  refine v_top (b := (r : Int)) (by rw [hr]) ?_
  refine v_istore [(4, .int (iZ (r : Int))), (0, .ref (vAd X 1)), (1, .int (iZ k)), (2, .int (iZ a)), (3, .int (iZ b))] K dX0_putResource_4 (by decide) rfl ?_
  refine v_aload_n 1 K dX0_putResource_6 rfl ?_
  refine v_get (c := 1) (k := 0) (C := RX0) (T := TX0) (N := 4) (v := .ref (vAd X 19)) K isO_Bd rfl (fun _ h => (List.mem_cons_of_mem _ (List.mem_append_left _ (List.mem_append_left _ (List.mem_append_right _ h))))) (by decide) (List.mem_cons_of_mem _ (List.mem_append_left _ (List.mem_append_left _ (List.mem_append_left _ (List.mem_of_getElem? (i := 1) rfl))))) rfl dX0_putResource_7 rfl ?_
  refine v_iload 0 K dX0_putResource_10 rfl ?_
  refine v_aald (c := 19) r K isQ_Rs rfl rfl (by omega) dX0_putResource_12 ?_
  refine v_iload_n 2 K dX0_putResource_13 rfl ?_
  refine v_put (c := (21 + r)) (k := 2) (C := RX5) (T := TX5) (N := 7) (ty := .char) K (isO_Rs (r := r) (by omega)) rfl (fun _ h => (List.mem_cons_of_mem _ (List.mem_append_left _ (List.mem_append_right _ h)))) tyX5_ok nmX5 (by decide) (List.mem_cons_of_mem _ (List.mem_append_left _ (List.mem_append_left _ (List.mem_append_left _ (List.mem_of_getElem? (i := 2) rfl))))) rfl rfl (by decide +kernel) dX0_putResource_14 (fun _ _ _ => rfl) (fun _ _ => Nat.le_of_ble_eq_true rfl) (nar_c hk).1 (nar_c hk).2 ?_
  obtain ⟨μ1, eμ1⟩ : ∃ μ1 : Mem, μ1 = (upM μ (21 + r) 2 k) := ⟨_, rfl⟩
  rw [← eμ1]
  refine v_aload_n 1 K dX0_putResource_17 rfl ?_
  refine v_get (c := 1) (k := 0) (C := RX0) (T := TX0) (N := 4) (v := .ref (vAd X 19)) K isO_Bd rfl (fun _ h => (List.mem_cons_of_mem _ (List.mem_append_left _ (List.mem_append_left _ (List.mem_append_right _ h))))) (by decide) (List.mem_cons_of_mem _ (List.mem_append_left _ (List.mem_append_left _ (List.mem_append_left _ (List.mem_of_getElem? (i := 1) rfl))))) rfl dX0_putResource_18 rfl ?_
  refine v_iload 0 K dX0_putResource_21 rfl ?_
  refine v_aald (c := 19) r K isQ_Rs rfl rfl (by omega) dX0_putResource_23 ?_
  refine v_iload_n 3 K dX0_putResource_24 rfl ?_
  refine v_put (c := (21 + r)) (k := 0) (C := RX5) (T := TX5) (N := 7) (ty := .int) K (isO_Rs (r := r) (by omega)) rfl (fun _ h => (List.mem_cons_of_mem _ (List.mem_append_left _ (List.mem_append_right _ h)))) tyX5_ok nmX5 (by decide) (List.mem_cons_of_mem _ (List.mem_append_left _ (List.mem_append_left _ (List.mem_append_left _ (List.mem_of_getElem? (i := 3) rfl))))) rfl rfl (by decide +kernel) dX0_putResource_25 (fun _ _ _ => rfl) (fun _ _ => Nat.le_of_ble_eq_true rfl) rfl rfl ?_
  obtain ⟨μ2, eμ2⟩ : ∃ μ2 : Mem, μ2 = (upM μ1 (21 + r) 0 a) := ⟨_, rfl⟩
  rw [← eμ2]
  refine v_aload_n 1 K dX0_putResource_28 rfl ?_
  refine v_get (c := 1) (k := 0) (C := RX0) (T := TX0) (N := 4) (v := .ref (vAd X 19)) K isO_Bd rfl (fun _ h => (List.mem_cons_of_mem _ (List.mem_append_left _ (List.mem_append_left _ (List.mem_append_right _ h))))) (by decide) (List.mem_cons_of_mem _ (List.mem_append_left _ (List.mem_append_left _ (List.mem_append_left _ (List.mem_of_getElem? (i := 1) rfl))))) rfl dX0_putResource_29 rfl ?_
  refine v_iload 0 K dX0_putResource_32 rfl ?_
  refine v_aald (c := 19) r K isQ_Rs rfl rfl (by omega) dX0_putResource_34 ?_
  refine v_iload_n 4 K dX0_putResource_35 rfl ?_
  refine v_put (c := (21 + r)) (k := 1) (C := RX5) (T := TX5) (N := 7) (ty := .int) K (isO_Rs (r := r) (by omega)) rfl (fun _ h => (List.mem_cons_of_mem _ (List.mem_append_left _ (List.mem_append_right _ h)))) tyX5_ok nmX5 (by decide) (List.mem_cons_of_mem _ (List.mem_append_left _ (List.mem_append_left _ (List.mem_append_left _ (List.mem_of_getElem? (i := 4) rfl))))) rfl rfl (by decide +kernel) dX0_putResource_36 (fun _ _ _ => rfl) (fun _ _ => Nat.le_of_ble_eq_true rfl) rfl rfl ?_
  obtain ⟨μ3, eμ3⟩ : ∃ μ3 : Mem, μ3 = (upM μ2 (21 + r) 1 b) := ⟨_, rfl⟩
  rw [← eμ3]
  refine v_aload_n 1 K dX0_putResource_39 rfl ?_
  refine v_get (c := 1) (k := 0) (C := RX0) (T := TX0) (N := 4) (v := .ref (vAd X 19)) K isO_Bd rfl (fun _ h => (List.mem_cons_of_mem _ (List.mem_append_left _ (List.mem_append_left _ (List.mem_append_right _ h))))) (by decide) (List.mem_cons_of_mem _ (List.mem_append_left _ (List.mem_append_left _ (List.mem_append_left _ (List.mem_of_getElem? (i := 1) rfl))))) rfl dX0_putResource_40 rfl ?_
  refine v_iload 0 K dX0_putResource_43 rfl ?_
  refine v_aald (c := 19) r K isQ_Rs rfl rfl (by omega) dX0_putResource_45 ?_
  refine v_callVv (c := (21 + r)) (As := []) (rest := []) K (isO_Rs (r := r) (by omega)) rfl 0 (c_X5_fillDelays X.1.2.1 K.2.2.2.2.2.2 _ _ _ μ3 r (by omega) (by rw [show μ3 (21 + r) 0 = a by simp [eμ3, eμ2, upM]]; exact ha) (by rw [show μ3 (21 + r) 2 = k by simp [eμ3, eμ2, eμ1, upM]]; exact hk)) gX0_putResource_X5_fillDelays rfl rfl rfl (by decide +kernel) ⟨(Nat.le_of_ble_eq_true rfl), (Nat.le_of_ble_eq_true rfl)⟩ rfl rfl (Nat.le_of_ble_eq_true rfl) dX0_putResource_46 ⟨(Nat.le_of_ble_eq_true rfl), (Nat.le_of_ble_eq_true rfl)⟩ (fun μ4 q46 => ?_)
  have e4 : μ4 1 = μ 1 := by rw [q46.1 1 (by omega), eμ3, upM_off (by omega), eμ2, upM_off (by omega), eμ1, upM_off (by omega)]
  refine v_aload_n 1 K dX0_putResource_49 rfl ?_
  refine v_dup rfl K dX0_putResource_50 ?_
  refine v_get (c := 1) (k := 2) (C := RX0) (T := TX0) (N := 4) (v := .int (iZ (μ4 1 2))) K isO_Bd rfl (fun _ h => (List.mem_cons_of_mem _ (List.mem_append_left _ (List.mem_append_left _ (List.mem_append_right _ h))))) (by decide) (List.mem_cons_of_mem _ (List.mem_append_left _ (List.mem_append_left _ (List.mem_append_left _ (List.mem_of_getElem? (i := 0) rfl))))) rfl dX0_putResource_51 rfl ?_
  refine v_iconst K dX0_putResource_54 ?_
  refine v_iadd K dX0_putResource_55 ?_
  refine v_put (c := 1) (k := 2) (C := RX0) (T := TX0) (N := 4) (ty := .int) K isO_Bd rfl (fun _ h => (List.mem_cons_of_mem _ (List.mem_append_left _ (List.mem_append_left _ (List.mem_append_right _ h))))) tyX0_ok nmX0 (by decide) (List.mem_cons_of_mem _ (List.mem_append_left _ (List.mem_append_left _ (List.mem_append_left _ (List.mem_of_getElem? (i := 0) rfl))))) rfl rfl (by decide +kernel) dX0_putResource_56 (fun _ _ _ => rfl) (fun _ _ => Nat.le_of_ble_eq_true rfl) rfl rfl ?_
  obtain ⟨μ5, eμ5⟩ : ∃ μ5 : Mem, μ5 = (upM μ4 1 2 ((μ4 1 2) + 1)) := ⟨_, rfl⟩
  rw [← eμ5]
  refine v_iload 0 K dX0_putResource_59 rfl ?_
  exact hret _ _ ⟨hr.symm, by rw [hr]; exact RPut_of hr8 hr eμ1 eμ2 eμ3 q46 (by rw [eμ5, e4])⟩ _ _ _ _ _ (Nat.le_of_ble_eq_true rfl) (Nat.le_of_ble_eq_true rfl) dX0_putResource_61
theorem c_X0_putResource (l : Launch) (hl : l.stackTraces = false) (D : va_G) (cy : Nat → ClassId) (ad : Nat → Nat) (μ : Mem) (k : Int) (a : Int) (b : Int) (hk : 0 ≤ k ∧ k ≤ 65535) (ha : 0 ≤ a ∧ a ≤ 20) (hrc : 0 ≤ μ 1 2 ∧ μ 1 2 < 8) : cI l yX0_putResource wsX0_putResource ({ frames := 2, cells := 0, slots := 0, locals := 42 } : Room) D cy ad μ [.ref (ad 1), .int (iZ k), .int (iZ a), .int (iZ b)] (fun (z : Int) (ν : Mem) => z = μ 1 2 ∧ RPut μ ν (μ 1 2).toNat k a b) :=
  m_int (av := (fun ad => [.ref (ad 1), .int (iZ k), .int (iZ a), .int (iZ b)])) hl (by decide) rfl rfl (Nat.le_of_ble_eq_true rfl) (fun _ _ _ => rfl) (fun X K hret => b_X0_putResource k a b hk ha hrc K hret)
theorem dX0_putPlayer_0 : decode cX0_putPlayer 0 = .ok (.aload_n 0, 1) := by decide +kernel
theorem dX0_putPlayer_1 : decode cX0_putPlayer 1 = .ok (.getfield 42, 3) := by decide +kernel
theorem dX0_putPlayer_4 : decode cX0_putPlayer 4 = .ok (.istore_n 3, 1) := by decide +kernel
theorem dX0_putPlayer_5 : decode cX0_putPlayer 5 = .ok (.aload_n 0, 1) := by decide +kernel
theorem dX0_putPlayer_6 : decode cX0_putPlayer 6 = .ok (.getfield 20, 3) := by decide +kernel
theorem dX0_putPlayer_9 : decode cX0_putPlayer 9 = .ok (.iload_n 3, 1) := by decide +kernel
theorem dX0_putPlayer_10 : decode cX0_putPlayer 10 = .ok (.aaload, 1) := by decide +kernel
theorem dX0_putPlayer_11 : decode cX0_putPlayer 11 = .ok (.iload_n 1, 1) := by decide +kernel
theorem dX0_putPlayer_12 : decode cX0_putPlayer 12 = .ok (.putfield 45, 3) := by decide +kernel
theorem dX0_putPlayer_15 : decode cX0_putPlayer 15 = .ok (.aload_n 0, 1) := by decide +kernel
theorem dX0_putPlayer_16 : decode cX0_putPlayer 16 = .ok (.getfield 20, 3) := by decide +kernel
theorem dX0_putPlayer_19 : decode cX0_putPlayer 19 = .ok (.iload_n 3, 1) := by decide +kernel
theorem dX0_putPlayer_20 : decode cX0_putPlayer 20 = .ok (.aaload, 1) := by decide +kernel
theorem dX0_putPlayer_21 : decode cX0_putPlayer 21 = .ok (.iload_n 2, 1) := by decide +kernel
theorem dX0_putPlayer_22 : decode cX0_putPlayer 22 = .ok (.putfield 48, 3) := by decide +kernel
theorem dX0_putPlayer_25 : decode cX0_putPlayer 25 = .ok (.aload_n 0, 1) := by decide +kernel
theorem dX0_putPlayer_26 : decode cX0_putPlayer 26 = .ok (.dup, 1) := by decide +kernel
theorem dX0_putPlayer_27 : decode cX0_putPlayer 27 = .ok (.getfield 42, 3) := by decide +kernel
theorem dX0_putPlayer_30 : decode cX0_putPlayer 30 = .ok (.iconst 1, 1) := by decide +kernel
theorem dX0_putPlayer_31 : decode cX0_putPlayer 31 = .ok (.iadd, 1) := by decide +kernel
theorem dX0_putPlayer_32 : decode cX0_putPlayer 32 = .ok (.putfield 42, 3) := by decide +kernel
theorem dX0_putPlayer_35 : decode cX0_putPlayer 35 = .ok (.iload_n 3, 1) := by decide +kernel
theorem dX0_putPlayer_36 : decode cX0_putPlayer 36 = .ok (.ireturn, 1) := by decide +kernel
set_option maxHeartbeats 4000000 in
set_option maxRecDepth 100000 in
theorem b_X0_putPlayer {X : VC} {μ : Mem} (w : Int) (m : Int) (hpc : 0 ≤ μ 1 3 ∧ μ 1 3 < 6) (K : vK X cX0_putPlayer 4 RX0 wsX0_putPlayer ({ frames := 0, cells := 0, slots := 0, locals := 0 } : Room)) (hret : ∀ (z : Int) (ν : Mem), (fun (z : Int) (ν : Mem) => z = μ 1 3 ∧ PPut μ ν (μ 1 3).toNat w m) z ν → ∀ n pc k1 k2 lv, k1 ≤ 0 → k2 ≤ 0 → decode cX0_putPlayer pc = .ok (.ireturn, 1) → vW X n pc k1 k2 lv [.int (iZ z)] ν) : vW X 4 0 0 0 [(0, .ref (vAd X 1)), (1, .int (iZ w)), (2, .int (iZ m))] [] μ := by
  obtain ⟨p, hp⟩ := nat_of hpc.1
  have hp6 : p < 6 := by omega
  refine v_aload_n 0 K dX0_putPlayer_0 rfl ?_
  refine v_get (c := 1) (k := 3) (C := RX0) (T := TX0) (N := 4) (v := .int (iZ (μ 1 3))) K isO_Bd rfl (fun _ h => (List.mem_cons_of_mem _ (List.mem_append_left _ (List.mem_append_right _ h)))) (by decide) (List.mem_cons_of_mem _ (List.mem_append_left _ (List.mem_append_left _ (List.mem_of_getElem? (i := 0) rfl)))) rfl dX0_putPlayer_1 rfl ?_
  refine v_top (b := (p : Int)) (by rw [hp]) ?_
  refine v_istore_n [(3, .int (iZ (p : Int))), (0, .ref (vAd X 1)), (1, .int (iZ w)), (2, .int (iZ m))] K dX0_putPlayer_4 (by decide) rfl ?_
  refine v_aload_n 1 K dX0_putPlayer_5 rfl ?_
  refine v_get (c := 1) (k := 1) (C := RX0) (T := TX0) (N := 4) (v := .ref (vAd X 20)) K isO_Bd rfl (fun _ h => (List.mem_cons_of_mem _ (List.mem_append_left _ (List.mem_append_right _ h)))) (by decide) (List.mem_cons_of_mem _ (List.mem_append_left _ (List.mem_append_left _ (List.mem_of_getElem? (i := 1) rfl)))) rfl dX0_putPlayer_6 rfl ?_
  refine v_iload_n 0 K dX0_putPlayer_9 rfl ?_
  refine v_aald (c := 20) p K isQ_Py rfl rfl (by omega) dX0_putPlayer_10 ?_
  refine v_iload_n 2 K dX0_putPlayer_11 rfl ?_
  refine v_put (c := (37 + p)) (k := 0) (C := RX4) (T := TX4) (N := 6) (ty := .int) K (isO_Py (p := p) (by omega)) rfl (fun _ h => (List.mem_cons_of_mem _ (List.mem_append_right _ h))) tyX4_ok nmX4 (by decide) (List.mem_cons_of_mem _ (List.mem_append_left _ (List.mem_append_left _ (List.mem_of_getElem? (i := 2) rfl)))) rfl rfl (by decide +kernel) dX0_putPlayer_12 (fun _ _ _ => rfl) (fun _ _ => Nat.le_of_ble_eq_true rfl) rfl rfl ?_
  obtain ⟨μ1, eμ1⟩ : ∃ μ1 : Mem, μ1 = (upM μ (37 + p) 0 w) := ⟨_, rfl⟩
  rw [← eμ1]
  refine v_aload_n 1 K dX0_putPlayer_15 rfl ?_
  refine v_get (c := 1) (k := 1) (C := RX0) (T := TX0) (N := 4) (v := .ref (vAd X 20)) K isO_Bd rfl (fun _ h => (List.mem_cons_of_mem _ (List.mem_append_left _ (List.mem_append_right _ h)))) (by decide) (List.mem_cons_of_mem _ (List.mem_append_left _ (List.mem_append_left _ (List.mem_of_getElem? (i := 1) rfl)))) rfl dX0_putPlayer_16 rfl ?_
  refine v_iload_n 0 K dX0_putPlayer_19 rfl ?_
  refine v_aald (c := 20) p K isQ_Py rfl rfl (by omega) dX0_putPlayer_20 ?_
  refine v_iload_n 3 K dX0_putPlayer_21 rfl ?_
  refine v_put (c := (37 + p)) (k := 1) (C := RX4) (T := TX4) (N := 6) (ty := .int) K (isO_Py (p := p) (by omega)) rfl (fun _ h => (List.mem_cons_of_mem _ (List.mem_append_right _ h))) tyX4_ok nmX4 (by decide) (List.mem_cons_of_mem _ (List.mem_append_left _ (List.mem_append_left _ (List.mem_of_getElem? (i := 3) rfl)))) rfl rfl (by decide +kernel) dX0_putPlayer_22 (fun _ _ _ => rfl) (fun _ _ => Nat.le_of_ble_eq_true rfl) rfl rfl ?_
  obtain ⟨μ2, eμ2⟩ : ∃ μ2 : Mem, μ2 = (upM μ1 (37 + p) 1 m) := ⟨_, rfl⟩
  rw [← eμ2]
  refine v_aload_n 1 K dX0_putPlayer_25 rfl ?_
  refine v_dup rfl K dX0_putPlayer_26 ?_
  refine v_get (c := 1) (k := 3) (C := RX0) (T := TX0) (N := 4) (v := .int (iZ (μ2 1 3))) K isO_Bd rfl (fun _ h => (List.mem_cons_of_mem _ (List.mem_append_left _ (List.mem_append_right _ h)))) (by decide) (List.mem_cons_of_mem _ (List.mem_append_left _ (List.mem_append_left _ (List.mem_of_getElem? (i := 0) rfl)))) rfl dX0_putPlayer_27 rfl ?_
  refine v_iconst K dX0_putPlayer_30 ?_
  refine v_iadd K dX0_putPlayer_31 ?_
  refine v_put (c := 1) (k := 3) (C := RX0) (T := TX0) (N := 4) (ty := .int) K isO_Bd rfl (fun _ h => (List.mem_cons_of_mem _ (List.mem_append_left _ (List.mem_append_right _ h)))) tyX0_ok nmX0 (by decide) (List.mem_cons_of_mem _ (List.mem_append_left _ (List.mem_append_left _ (List.mem_of_getElem? (i := 0) rfl)))) rfl rfl (by decide +kernel) dX0_putPlayer_32 (fun _ _ _ => rfl) (fun _ _ => Nat.le_of_ble_eq_true rfl) rfl rfl ?_
  obtain ⟨μ3, eμ3⟩ : ∃ μ3 : Mem, μ3 = (upM μ2 1 3 ((μ2 1 3) + 1)) := ⟨_, rfl⟩
  rw [← eμ3]
  refine v_iload_n 0 K dX0_putPlayer_35 rfl ?_
  exact hret _ _ ⟨hp.symm, by rw [hp]; exact PPut_of hp6 hp eμ1 eμ2 (by rw [eμ3, eμ2, upM_off (by omega), eμ1, upM_off (by omega)])⟩ _ _ _ _ _ (Nat.le_of_ble_eq_true rfl) (Nat.le_of_ble_eq_true rfl) dX0_putPlayer_36
theorem c_X0_putPlayer (l : Launch) (hl : l.stackTraces = false) (D : va_G) (cy : Nat → ClassId) (ad : Nat → Nat) (μ : Mem) (w : Int) (m : Int) (hpc : 0 ≤ μ 1 3 ∧ μ 1 3 < 6) : cI l yX0_putPlayer wsX0_putPlayer ({ frames := 0, cells := 0, slots := 0, locals := 0 } : Room) D cy ad μ [.ref (ad 1), .int (iZ w), .int (iZ m)] (fun (z : Int) (ν : Mem) => z = μ 1 3 ∧ PPut μ ν (μ 1 3).toNat w m) :=
  m_int (av := (fun ad => [.ref (ad 1), .int (iZ w), .int (iZ m)])) hl (by decide) rfl rfl (Nat.le_of_ble_eq_true rfl) (fun _ _ _ => rfl) (fun X K hret => b_X0_putPlayer w m hpc K hret)
theorem dX0_take_0 : decode cX0_take 0 = .ok (.aload_n 0, 1) := by decide +kernel
theorem dX0_take_1 : decode cX0_take 1 = .ok (.getfield 20, 3) := by decide +kernel
theorem dX0_take_4 : decode cX0_take 4 = .ok (.iload_n 2, 1) := by decide +kernel
theorem dX0_take_5 : decode cX0_take 5 = .ok (.aaload, 1) := by decide +kernel
theorem dX0_take_6 : decode cX0_take 6 = .ok (.astore 4, 2) := by decide +kernel
theorem dX0_take_8 : decode cX0_take 8 = .ok (.aload 4, 2) := by decide +kernel
theorem dX0_take_10 : decode cX0_take 10 = .ok (.aload_n 1, 1) := by decide +kernel
theorem dX0_take_11 : decode cX0_take 11 = .ok (.getfield 62, 3) := by decide +kernel
theorem dX0_take_14 : decode cX0_take 14 = .ok (.iload_n 2, 1) := by decide +kernel
theorem dX0_take_15 : decode cX0_take 15 = .ok (.iaload, 1) := by decide +kernel
theorem dX0_take_16 : decode cX0_take 16 = .ok (.invokevirtual 67, 3) := by decide +kernel
set_option maxRecDepth 20000 in
theorem ggX0_take_X4_bitsOf : GoodIn wsX0_take wsX4_bitsOf := goodIn_ca (goodIn_r _ [10, 11, 12, 23, 24, 25, 26, 27, 28] (by decide +kernel) (by decide +kernel)) (goodIn_sub (fun _ h => List.mem_cons_of_mem _ (List.mem_append_right _ h)) (by decide +kernel))
set_option maxRecDepth 20000 in
theorem gX0_take_X4_bitsOf : GoodIn wsX0_take (wsV RX0 67 RX4 yX4_bitsOf wsX4_bitsOf) := goodIn_app (goodIn_of _ (by decide +kernel)) ggX0_take_X4_bitsOf
theorem dX0_take_19 : decode cX0_take 19 = .ok (.istore 5, 2) := by decide +kernel
theorem dX0_take_21 : decode cX0_take 21 = .ok (.aload 4, 2) := by decide +kernel
theorem dX0_take_23 : decode cX0_take 23 = .ok (.iload_n 3, 1) := by decide +kernel
theorem dX0_take_24 : decode cX0_take 24 = .ok (.invokevirtual 67, 3) := by decide +kernel
theorem dX0_take_27 : decode cX0_take 27 = .ok (.istore 6, 2) := by decide +kernel
theorem dX0_take_29 : decode cX0_take 29 = .ok (.iconst 0, 1) := by decide +kernel
theorem dX0_take_30 : decode cX0_take 30 = .ok (.istore 7, 2) := by decide +kernel
theorem dX0_take_32 : decode cX0_take 32 = .ok (.iload 7, 2) := by decide +kernel
theorem dX0_take_34 : decode cX0_take 34 = .ok (.aload_n 0, 1) := by decide +kernel
theorem dX0_take_35 : decode cX0_take 35 = .ok (.getfield 25, 3) := by decide +kernel
theorem dX0_take_38 : decode cX0_take 38 = .ok (.if_icmp .ge 59, 3) := by decide +kernel
theorem dX0_take_97 : decode cX0_take 97 = .ok (.aload_n 1, 1) := by decide +kernel
theorem dX0_take_98 : decode cX0_take 98 = .ok (.getfield 62, 3) := by decide +kernel
theorem dX0_take_101 : decode cX0_take 101 = .ok (.iload_n 2, 1) := by decide +kernel
theorem dX0_take_102 : decode cX0_take 102 = .ok (.iload_n 3, 1) := by decide +kernel
theorem dX0_take_103 : decode cX0_take 103 = .ok (.iastore, 1) := by decide +kernel
theorem dX0_take_104 : decode cX0_take 104 = .ok (.return_, 1) := by decide +kernel
theorem dX0_take_41 : decode cX0_take 41 = .ok (.iload 5, 2) := by decide +kernel
theorem dX0_take_43 : decode cX0_take 43 = .ok (.iload 7, 2) := by decide +kernel
theorem dX0_take_45 : decode cX0_take 45 = .ok (.invokestatic 71, 3) := by decide +kernel
set_option maxRecDepth 20000 in
theorem ggX0_take_X7_hasBit : GoodIn wsX0_take wsX7_hasBit := goodIn_r _ [15] (by decide +kernel) (by decide +kernel)
set_option maxRecDepth 20000 in
theorem gX0_take_X7_hasBit_n71 : GoodIn wsX0_take (wsX7_hasBit) := ggX0_take_X7_hasBit
theorem dX0_take_48 : decode cX0_take 48 = .ok (.ifCond .eq 18, 3) := by decide +kernel
theorem dX0_take_66 : decode cX0_take 66 = .ok (.iload 6, 2) := by decide +kernel
theorem dX0_take_68 : decode cX0_take 68 = .ok (.iload 7, 2) := by decide +kernel
theorem dX0_take_70 : decode cX0_take 70 = .ok (.invokestatic 71, 3) := by decide +kernel
theorem dX0_take_73 : decode cX0_take 73 = .ok (.ifCond .eq 18, 3) := by decide +kernel
theorem dX0_take_91 : decode cX0_take 91 = .ok (.iinc 7 1, 3) := by decide +kernel
theorem dX0_take_94 : decode cX0_take 94 = .ok (.goto (-62), 3) := by decide +kernel
theorem dX0_take_76 : decode cX0_take 76 = .ok (.aload_n 1, 1) := by decide +kernel
theorem dX0_take_77 : decode cX0_take 77 = .ok (.getfield 75, 3) := by decide +kernel
theorem dX0_take_80 : decode cX0_take 80 = .ok (.iload 7, 2) := by decide +kernel
theorem dX0_take_82 : decode cX0_take 82 = .ok (.dup2, 1) := by decide +kernel
theorem dX0_take_83 : decode cX0_take 83 = .ok (.iaload, 1) := by decide +kernel
theorem dX0_take_84 : decode cX0_take 84 = .ok (.aload 4, 2) := by decide +kernel
theorem dX0_take_86 : decode cX0_take 86 = .ok (.getfield 45, 3) := by decide +kernel
theorem dX0_take_89 : decode cX0_take 89 = .ok (.iadd, 1) := by decide +kernel
theorem dX0_take_90 : decode cX0_take 90 = .ok (.iastore, 1) := by decide +kernel
theorem dX0_take_51 : decode cX0_take 51 = .ok (.aload_n 1, 1) := by decide +kernel
theorem dX0_take_52 : decode cX0_take 52 = .ok (.getfield 75, 3) := by decide +kernel
theorem dX0_take_55 : decode cX0_take 55 = .ok (.iload 7, 2) := by decide +kernel
theorem dX0_take_57 : decode cX0_take 57 = .ok (.dup2, 1) := by decide +kernel
theorem dX0_take_58 : decode cX0_take 58 = .ok (.iaload, 1) := by decide +kernel
theorem dX0_take_59 : decode cX0_take 59 = .ok (.aload 4, 2) := by decide +kernel
theorem dX0_take_61 : decode cX0_take 61 = .ok (.getfield 45, 3) := by decide +kernel
theorem dX0_take_64 : decode cX0_take 64 = .ok (.isub, 1) := by decide +kernel
theorem dX0_take_65 : decode cX0_take 65 = .ok (.iastore, 1) := by decide +kernel
set_option maxHeartbeats 4000000 in
set_option maxRecDepth 100000 in
theorem b_X0_take {X : VC} {μ : Mem} (y : Nat) (p : Nat) (w : Int) (hy : y < 2) (hp : p < 6) (hW : WF μ) (hw : -1 ≤ w ∧ w ≤ 4) (hch : -1 ≤ μ (5 + 2 * y) p ∧ μ (5 + 2 * y) p ≤ 4) (K : vK X cX0_take 8 RX0 wsX0_take ({ frames := 1, cells := 0, slots := 0, locals := 21 } : Room)) (hret : ∀ (ν : Mem), (fun (ν : Mem) => TK μ ν y p w) ν → ∀ n pc k1 k2 lv, k1 ≤ 0 → k2 ≤ 0 → decode cX0_take pc = .ok (.return_, 1) → vW X n pc k1 k2 lv [] ν) : vW X 8 0 0 0 [(0, .ref (vAd X 1)), (1, .ref (vAd X (2 + y))), (2, .int (iZ (p : Int))), (3, .int (iZ w))] [] μ := by
  have hrc := hW.rc8
  have hb1 := bits_rng hW hp (μ (5 + 2 * y) p)
  have hb2 := bits_rng hW hp w
  refine v_aload_n 0 K dX0_take_0 rfl ?_
  refine v_get (c := 1) (k := 1) (C := RX0) (T := TX0) (N := 4) (v := .ref (vAd X 20)) K isO_Bd rfl (fun _ h => (List.mem_cons_of_mem _ (List.mem_append_left _ (List.mem_append_left _ (List.mem_append_left _ (List.mem_append_right _ h)))))) (by decide) (List.mem_cons_of_mem _ (List.mem_append_left _ (List.mem_append_left _ (List.mem_append_left _ (List.mem_append_left _ (List.mem_of_getElem? (i := 0) rfl)))))) rfl dX0_take_1 rfl ?_
  refine v_iload_n 2 K dX0_take_4 rfl ?_
  refine v_aald (c := 20) p K isQ_Py rfl rfl (by omega) dX0_take_5 ?_
  refine v_astore [(4, .ref (vAd X (37 + p))), (0, .ref (vAd X 1)), (1, .ref (vAd X (2 + y))), (2, .int (iZ (p : Int))), (3, .int (iZ w))] K dX0_take_6 (by decide) rfl ?_
  refine v_aload 0 K dX0_take_8 rfl ?_
  refine v_aload_n 2 K dX0_take_10 rfl ?_
  refine v_get (c := (2 + y)) (k := 0) (C := RX3) (T := TX3) (N := 3) (v := .ref (vAd X (5 + 2 * y))) K (isO_Pl (y := y) (by omega)) rfl (fun _ h => (List.mem_cons_of_mem _ (List.mem_append_left _ (List.mem_append_left _ (List.mem_append_right _ h))))) (by decide) (List.mem_cons_of_mem _ (List.mem_append_left _ (List.mem_append_left _ (List.mem_append_left _ (List.mem_append_left _ (List.mem_of_getElem? (i := 1) rfl)))))) rfl dX0_take_11 rfl ?_
  refine v_iload_n 3 K dX0_take_14 rfl ?_
  refine v_iald (c := (5 + 2 * y)) p K (isI_ch (y := y) (by omega)) rfl (by omega) dX0_take_15 ?_
  refine v_callVir (c := (37 + p)) (As := [.int (iZ (μ (5 + 2 * y) p))]) (rest := []) K (isO_Py (p := p) (by omega)) rfl 1 (c_X4_bitsOf X.1.2.1 K.2.2.2.2.2.2 _ _ _ μ p (μ (5 + 2 * y) p) hp (by omega) hW) gX0_take_X4_bitsOf rfl rfl rfl (by decide +kernel) ⟨(Nat.le_of_ble_eq_true rfl), (Nat.le_of_ble_eq_true rfl)⟩ rfl rfl (Nat.le_of_ble_eq_true rfl) dX0_take_16 ⟨(Nat.le_of_ble_eq_true rfl), (Nat.le_of_ble_eq_true rfl)⟩ ?_
  refine v_istore [(5, .int (iZ (bits μ p (μ (5 + 2 * y) p)))), (4, .ref (vAd X (37 + p))), (0, .ref (vAd X 1)), (1, .ref (vAd X (2 + y))), (2, .int (iZ (p : Int))), (3, .int (iZ w))] K dX0_take_19 (by decide) rfl ?_
  refine v_aload 1 K dX0_take_21 rfl ?_
  refine v_iload_n 5 K dX0_take_23 rfl ?_
  refine v_callVir (c := (37 + p)) (As := [.int (iZ w)]) (rest := []) K (isO_Py (p := p) (by omega)) rfl 1 (c_X4_bitsOf X.1.2.1 K.2.2.2.2.2.2 _ _ _ μ p w hp (by omega) hW) gX0_take_X4_bitsOf rfl rfl rfl (by decide +kernel) ⟨(Nat.le_of_ble_eq_true rfl), (Nat.le_of_ble_eq_true rfl)⟩ rfl rfl (Nat.le_of_ble_eq_true rfl) dX0_take_24 ⟨(Nat.le_of_ble_eq_true rfl), (Nat.le_of_ble_eq_true rfl)⟩ ?_
  refine v_istore [(6, .int (iZ (bits μ p w))), (5, .int (iZ (bits μ p (μ (5 + 2 * y) p)))), (4, .ref (vAd X (37 + p))), (0, .ref (vAd X 1)), (1, .ref (vAd X (2 + y))), (2, .int (iZ (p : Int))), (3, .int (iZ w))] K dX0_take_27 (by decide) rfl ?_
  refine v_iconst K dX0_take_29 ?_
  refine v_istore [(7, .int (iZ 0)), (6, .int (iZ (bits μ p w))), (5, .int (iZ (bits μ p (μ (5 + 2 * y) p)))), (4, .ref (vAd X (37 + p))), (0, .ref (vAd X 1)), (1, .ref (vAd X (2 + y))), (2, .int (iZ (p : Int))), (3, .int (iZ w))] K dX0_take_30 (by decide) rfl ?_
  have L32 : ∀ (fuel : Nat) (r : Nat) (ν : Mem) (hm : 9 - r < fuel) (hr : r ≤ rc μ) (hT : TKl μ ν y p w r), vW X 8 32 0 0 [(0, .ref (vAd X 1)), (1, .ref (vAd X (2 + y))), (2, .int (iZ (p : Int))), (3, .int (iZ w)), (4, .ref (vAd X (37 + p))), (5, .int (iZ (bits μ p (μ (5 + 2 * y) p)))), (6, .int (iZ (bits μ p w))), (7, .int (iZ (r : Int)))] [] ν := by
    intro fuel
    induction fuel with
    | zero => intro r ν hm; exact absurd hm (Nat.not_lt_zero _)
    | succ fuel ih32 =>
      intro r ν hm hr hT
      refine v_iload 7 K dX0_take_32 rfl ?_
      have e1 : ν 1 = μ 1 := hT.1 1 (by omega)
      have e3 : ν (37 + p) = μ (37 + p) := hT.1 (37 + p) (by omega)
      have e5 : ν (5 + 2 * y) = μ (5 + 2 * y) := hT.1 (5 + 2 * y) (by omega)
      have e12 : ν 1 2 = μ 1 2 := by rw [e1]
      have h01 := tz_01 (bits μ p (μ (5 + 2 * y) p)) r
      have h02 := tz_01 (bits μ p w) r
      refine v_aload_n 0 K dX0_take_34 rfl ?_
      refine v_get (c := 1) (k := 2) (C := RX0) (T := TX0) (N := 4) (v := .int (iZ (ν 1 2))) K isO_Bd rfl (fun _ h => (List.mem_cons_of_mem _ (List.mem_append_left _ (List.mem_append_left _ (List.mem_append_left _ (List.mem_append_right _ h)))))) (by decide) (List.mem_cons_of_mem _ (List.mem_append_left _ (List.mem_append_left _ (List.mem_append_left _ (List.mem_append_left _ (List.mem_of_getElem? (i := 2) rfl)))))) rfl dX0_take_35 rfl ?_
      refine v_icmp_ge 97 K dX0_take_38 (by decide) (by omega) (by omega) (fun c38 => ?_) (fun c38 => ?_)
      · refine v_aload_n 1 K dX0_take_97 rfl ?_
        refine v_get (c := (2 + y)) (k := 0) (C := RX3) (T := TX3) (N := 3) (v := .ref (vAd X (5 + 2 * y))) K (isO_Pl (y := y) (by omega)) rfl (fun _ h => (List.mem_cons_of_mem _ (List.mem_append_left _ (List.mem_append_left _ (List.mem_append_right _ h))))) (by decide) (List.mem_cons_of_mem _ (List.mem_append_left _ (List.mem_append_left _ (List.mem_append_left _ (List.mem_append_left _ (List.mem_of_getElem? (i := 1) rfl)))))) rfl dX0_take_98 rfl ?_
        refine v_iload_n 2 K dX0_take_101 rfl ?_
        refine v_iload_n 3 K dX0_take_102 rfl ?_
        refine v_iast (c := (5 + 2 * y)) p K (isI_ch (y := y) (by omega)) rfl (by omega) dX0_take_103 ?_
        exact hret _ (TK_of hT (by omega)) _ _ _ _ _ (Nat.le_of_ble_eq_true rfl) (Nat.le_of_ble_eq_true rfl) dX0_take_104
      · refine v_iload 5 K dX0_take_41 rfl ?_
        refine v_iload 7 K dX0_take_43 rfl ?_
        refine v_callNir (host := RX7) (As := [.int (iZ (bits μ p (μ (5 + 2 * y) p))), .int (iZ (r : Int))]) (rest := []) K 2 (c_X7_hasBit X.1.2.1 K.2.2.2.2.2.2 _ _ _ ν (bits μ p (μ (5 + 2 * y) p)) r (by omega) (by omega)) gX0_take_X7_hasBit_n71 rfl rfl rfl (by decide +kernel) (List.mem_cons_of_mem _ (List.mem_append_left _ (List.mem_append_left _ (List.mem_append_left _ (List.mem_append_left _ (List.mem_of_getElem? (i := 13) rfl)))))) (List.mem_cons_of_mem _ (List.mem_append_left _ (List.mem_append_left _ (List.mem_append_left _ (List.mem_append_left _ (List.mem_of_getElem? (i := 12) rfl)))))) (by decide +kernel) ⟨(Nat.le_of_ble_eq_true rfl), (Nat.le_of_ble_eq_true rfl)⟩ rfl rfl (Nat.le_of_ble_eq_true rfl) dX0_take_45 ⟨(Nat.le_of_ble_eq_true rfl), (Nat.le_of_ble_eq_true rfl)⟩ ?_
        refine v_if_eq 66 K dX0_take_48 (by decide) (by omega) (fun c48 => ?_) (fun c48 => ?_)
        · refine v_iload 6 K dX0_take_66 rfl ?_
          refine v_iload 7 K dX0_take_68 rfl ?_
          refine v_callNir (host := RX7) (As := [.int (iZ (bits μ p w)), .int (iZ (r : Int))]) (rest := []) K 2 (c_X7_hasBit X.1.2.1 K.2.2.2.2.2.2 _ _ _ ν (bits μ p w) r (by omega) (by omega)) gX0_take_X7_hasBit_n71 rfl rfl rfl (by decide +kernel) (List.mem_cons_of_mem _ (List.mem_append_left _ (List.mem_append_left _ (List.mem_append_left _ (List.mem_append_left _ (List.mem_of_getElem? (i := 13) rfl)))))) (List.mem_cons_of_mem _ (List.mem_append_left _ (List.mem_append_left _ (List.mem_append_left _ (List.mem_append_left _ (List.mem_of_getElem? (i := 12) rfl)))))) (by decide +kernel) ⟨(Nat.le_of_ble_eq_true rfl), (Nat.le_of_ble_eq_true rfl)⟩ rfl rfl (Nat.le_of_ble_eq_true rfl) dX0_take_70 ⟨(Nat.le_of_ble_eq_true rfl), (Nat.le_of_ble_eq_true rfl)⟩ ?_
          refine v_if_eq 91 K dX0_take_73 (by decide) (by omega) (fun c73 => ?_) (fun c73 => ?_)
          · have hT2 : TKl μ ν y p w (r + 1) := TKl_s hT (fun c j h => by rfl) (by unfold tkd; rw [if_neg (by omega), if_neg (by omega)]; omega)
            refine v_iinc 7 [(7, .int (iZ ((r : Int) + 1))), (0, .ref (vAd X 1)), (1, .ref (vAd X (2 + y))), (2, .int (iZ (p : Int))), (3, .int (iZ w)), (4, .ref (vAd X (37 + p))), (5, .int (iZ (bits μ p (μ (5 + 2 * y) p)))), (6, .int (iZ (bits μ p w)))] K dX0_take_91 rfl (by decide) rfl ?_
            refine v_goto 32 K dX0_take_94 (by decide) ?_
            refine v_sub [1, 2, 3, 4, 5, 6, 7, 0] rfl ?_
            refine v_eq (lv1 := [(0, .ref (vAd X 1)), (1, .ref (vAd X (2 + y))), (2, .int (iZ (p : Int))), (3, .int (iZ w)), (4, .ref (vAd X (37 + p))), (5, .int (iZ (bits μ p (μ (5 + 2 * y) p)))), (6, .int (iZ (bits μ p w))), (7, .int (iZ (((r + 1) : Nat) : Int)))]) (st1 := []) (v_c0 (v_c0 (v_c0 (v_c0 (v_c0 (v_c0 (v_c0 (v_cI (by omega) rfl)))))))) rfl ?_
            exact ih32 (r + 1) ν (by omega) (by omega) hT2
          · refine v_aload_n 1 K dX0_take_76 rfl ?_
            refine v_get (c := (2 + y)) (k := 1) (C := RX3) (T := TX3) (N := 3) (v := .ref (vAd X (6 + 2 * y))) K (isO_Pl (y := y) (by omega)) rfl (fun _ h => (List.mem_cons_of_mem _ (List.mem_append_left _ (List.mem_append_left _ (List.mem_append_right _ h))))) (by decide) (List.mem_cons_of_mem _ (List.mem_append_left _ (List.mem_append_left _ (List.mem_append_left _ (List.mem_append_left _ (List.mem_of_getElem? (i := 3) rfl)))))) rfl dX0_take_77 rfl ?_
            refine v_iload 7 K dX0_take_80 rfl ?_
            refine v_dup2 rfl rfl K dX0_take_82 ?_
            refine v_iald (c := (6 + 2 * y)) r K (isI_ld (y := y) (by omega)) rfl (by omega) dX0_take_83 ?_
            refine v_aload 4 K dX0_take_84 rfl ?_
            refine v_get (c := (37 + p)) (k := 0) (C := RX4) (T := TX4) (N := 6) (v := .int (iZ (ν (37 + p) 0))) K (isO_Py (p := p) (by omega)) rfl (fun _ h => (List.mem_cons_of_mem _ (List.mem_append_left _ (List.mem_append_right _ h)))) (by decide) (List.mem_cons_of_mem _ (List.mem_append_left _ (List.mem_append_left _ (List.mem_append_left _ (List.mem_append_left _ (List.mem_of_getElem? (i := 4) rfl)))))) rfl dX0_take_86 rfl ?_
            refine v_top (b := (μ (37 + p) 0)) (by rw [e3]) ?_
            refine v_iadd K dX0_take_89 ?_
            refine v_iast (c := (6 + 2 * y)) r K (isI_ld (y := y) (by omega)) rfl (by omega) dX0_take_90 ?_
            have hT2 : TKl μ (upM ν (6 + 2 * y) r ((ν (6 + 2 * y) r) + (μ (37 + p) 0))) y p w (r + 1) := TKl_s hT (fun c j h => by rw [upM_ne h]) (by unfold tkd; rw [if_pos (by omega), if_neg (by omega)]; rw [upM_self]; omega)
            refine v_iinc 7 [(7, .int (iZ ((r : Int) + 1))), (0, .ref (vAd X 1)), (1, .ref (vAd X (2 + y))), (2, .int (iZ (p : Int))), (3, .int (iZ w)), (4, .ref (vAd X (37 + p))), (5, .int (iZ (bits μ p (μ (5 + 2 * y) p)))), (6, .int (iZ (bits μ p w)))] K dX0_take_91 rfl (by decide) rfl ?_
            refine v_goto 32 K dX0_take_94 (by decide) ?_
            refine v_sub [1, 2, 3, 4, 5, 6, 7, 0] rfl ?_
            refine v_eq (lv1 := [(0, .ref (vAd X 1)), (1, .ref (vAd X (2 + y))), (2, .int (iZ (p : Int))), (3, .int (iZ w)), (4, .ref (vAd X (37 + p))), (5, .int (iZ (bits μ p (μ (5 + 2 * y) p)))), (6, .int (iZ (bits μ p w))), (7, .int (iZ (((r + 1) : Nat) : Int)))]) (st1 := []) (v_c0 (v_c0 (v_c0 (v_c0 (v_c0 (v_c0 (v_c0 (v_cI (by omega) rfl)))))))) rfl ?_
            exact ih32 (r + 1) (upM ν (6 + 2 * y) r ((ν (6 + 2 * y) r) + (μ (37 + p) 0))) (by omega) (by omega) hT2
        · refine v_aload_n 1 K dX0_take_51 rfl ?_
          refine v_get (c := (2 + y)) (k := 1) (C := RX3) (T := TX3) (N := 3) (v := .ref (vAd X (6 + 2 * y))) K (isO_Pl (y := y) (by omega)) rfl (fun _ h => (List.mem_cons_of_mem _ (List.mem_append_left _ (List.mem_append_left _ (List.mem_append_right _ h))))) (by decide) (List.mem_cons_of_mem _ (List.mem_append_left _ (List.mem_append_left _ (List.mem_append_left _ (List.mem_append_left _ (List.mem_of_getElem? (i := 3) rfl)))))) rfl dX0_take_52 rfl ?_
          refine v_iload 7 K dX0_take_55 rfl ?_
          refine v_dup2 rfl rfl K dX0_take_57 ?_
          refine v_iald (c := (6 + 2 * y)) r K (isI_ld (y := y) (by omega)) rfl (by omega) dX0_take_58 ?_
          refine v_aload 4 K dX0_take_59 rfl ?_
          refine v_get (c := (37 + p)) (k := 0) (C := RX4) (T := TX4) (N := 6) (v := .int (iZ (ν (37 + p) 0))) K (isO_Py (p := p) (by omega)) rfl (fun _ h => (List.mem_cons_of_mem _ (List.mem_append_left _ (List.mem_append_right _ h)))) (by decide) (List.mem_cons_of_mem _ (List.mem_append_left _ (List.mem_append_left _ (List.mem_append_left _ (List.mem_append_left _ (List.mem_of_getElem? (i := 4) rfl)))))) rfl dX0_take_61 rfl ?_
          refine v_top (b := (μ (37 + p) 0)) (by rw [e3]) ?_
          refine v_isub K dX0_take_64 ?_
          refine v_iast (c := (6 + 2 * y)) r K (isI_ld (y := y) (by omega)) rfl (by omega) dX0_take_65 ?_
          obtain ⟨ν1, eν1⟩ : ∃ ν1 : Mem, ν1 = (upM ν (6 + 2 * y) r ((ν (6 + 2 * y) r) - (μ (37 + p) 0))) := ⟨_, rfl⟩
          rw [← eν1]
          refine v_iload 6 K dX0_take_66 rfl ?_
          refine v_iload 7 K dX0_take_68 rfl ?_
          refine v_callNir (host := RX7) (As := [.int (iZ (bits μ p w)), .int (iZ (r : Int))]) (rest := []) K 2 (c_X7_hasBit X.1.2.1 K.2.2.2.2.2.2 _ _ _ ν1 (bits μ p w) r (by omega) (by omega)) gX0_take_X7_hasBit_n71 rfl rfl rfl (by decide +kernel) (List.mem_cons_of_mem _ (List.mem_append_left _ (List.mem_append_left _ (List.mem_append_left _ (List.mem_append_left _ (List.mem_of_getElem? (i := 13) rfl)))))) (List.mem_cons_of_mem _ (List.mem_append_left _ (List.mem_append_left _ (List.mem_append_left _ (List.mem_append_left _ (List.mem_of_getElem? (i := 12) rfl)))))) (by decide +kernel) ⟨(Nat.le_of_ble_eq_true rfl), (Nat.le_of_ble_eq_true rfl)⟩ rfl rfl (Nat.le_of_ble_eq_true rfl) dX0_take_70 ⟨(Nat.le_of_ble_eq_true rfl), (Nat.le_of_ble_eq_true rfl)⟩ ?_
          refine v_if_eq 91 K dX0_take_73 (by decide) (by omega) (fun c73 => ?_) (fun c73 => ?_)
          · have hT2 : TKl μ ν1 y p w (r + 1) := TKl_s hT (fun c j h => by rw [eν1, upM_ne h]) (by unfold tkd; rw [if_neg (by omega), if_pos (by omega)]; rw [eν1, upM_self]; omega)
            refine v_iinc 7 [(7, .int (iZ ((r : Int) + 1))), (0, .ref (vAd X 1)), (1, .ref (vAd X (2 + y))), (2, .int (iZ (p : Int))), (3, .int (iZ w)), (4, .ref (vAd X (37 + p))), (5, .int (iZ (bits μ p (μ (5 + 2 * y) p)))), (6, .int (iZ (bits μ p w)))] K dX0_take_91 rfl (by decide) rfl ?_
            refine v_goto 32 K dX0_take_94 (by decide) ?_
            refine v_sub [1, 2, 3, 4, 5, 6, 7, 0] rfl ?_
            refine v_eq (lv1 := [(0, .ref (vAd X 1)), (1, .ref (vAd X (2 + y))), (2, .int (iZ (p : Int))), (3, .int (iZ w)), (4, .ref (vAd X (37 + p))), (5, .int (iZ (bits μ p (μ (5 + 2 * y) p)))), (6, .int (iZ (bits μ p w))), (7, .int (iZ (((r + 1) : Nat) : Int)))]) (st1 := []) (v_c0 (v_c0 (v_c0 (v_c0 (v_c0 (v_c0 (v_c0 (v_cI (by omega) rfl)))))))) rfl ?_
            exact ih32 (r + 1) ν1 (by omega) (by omega) hT2
          · refine v_aload_n 1 K dX0_take_76 rfl ?_
            refine v_get (c := (2 + y)) (k := 1) (C := RX3) (T := TX3) (N := 3) (v := .ref (vAd X (6 + 2 * y))) K (isO_Pl (y := y) (by omega)) rfl (fun _ h => (List.mem_cons_of_mem _ (List.mem_append_left _ (List.mem_append_left _ (List.mem_append_right _ h))))) (by decide) (List.mem_cons_of_mem _ (List.mem_append_left _ (List.mem_append_left _ (List.mem_append_left _ (List.mem_append_left _ (List.mem_of_getElem? (i := 3) rfl)))))) rfl dX0_take_77 rfl ?_
            refine v_iload 7 K dX0_take_80 rfl ?_
            refine v_dup2 rfl rfl K dX0_take_82 ?_
            refine v_iald (c := (6 + 2 * y)) r K (isI_ld (y := y) (by omega)) rfl (by omega) dX0_take_83 ?_
            refine v_aload 4 K dX0_take_84 rfl ?_
            refine v_get (c := (37 + p)) (k := 0) (C := RX4) (T := TX4) (N := 6) (v := .int (iZ (ν1 (37 + p) 0))) K (isO_Py (p := p) (by omega)) rfl (fun _ h => (List.mem_cons_of_mem _ (List.mem_append_left _ (List.mem_append_right _ h)))) (by decide) (List.mem_cons_of_mem _ (List.mem_append_left _ (List.mem_append_left _ (List.mem_append_left _ (List.mem_append_left _ (List.mem_of_getElem? (i := 4) rfl)))))) rfl dX0_take_86 rfl ?_
            refine v_top (b := (μ (37 + p) 0)) (by rw [eν1, upM_off (by omega)]; rw [e3]) ?_
            refine v_iadd K dX0_take_89 ?_
            refine v_iast (c := (6 + 2 * y)) r K (isI_ld (y := y) (by omega)) rfl (by omega) dX0_take_90 ?_
            have hT2 : TKl μ (upM ν1 (6 + 2 * y) r ((ν1 (6 + 2 * y) r) + (μ (37 + p) 0))) y p w (r + 1) := TKl_s hT (fun c j h => by rw [upM_ne h, eν1, upM_ne h]) (by unfold tkd; rw [if_pos (by omega), if_pos (by omega)]; rw [upM_self, eν1, upM_self]; omega)
            refine v_iinc 7 [(7, .int (iZ ((r : Int) + 1))), (0, .ref (vAd X 1)), (1, .ref (vAd X (2 + y))), (2, .int (iZ (p : Int))), (3, .int (iZ w)), (4, .ref (vAd X (37 + p))), (5, .int (iZ (bits μ p (μ (5 + 2 * y) p)))), (6, .int (iZ (bits μ p w)))] K dX0_take_91 rfl (by decide) rfl ?_
            refine v_goto 32 K dX0_take_94 (by decide) ?_
            refine v_sub [1, 2, 3, 4, 5, 6, 7, 0] rfl ?_
            refine v_eq (lv1 := [(0, .ref (vAd X 1)), (1, .ref (vAd X (2 + y))), (2, .int (iZ (p : Int))), (3, .int (iZ w)), (4, .ref (vAd X (37 + p))), (5, .int (iZ (bits μ p (μ (5 + 2 * y) p)))), (6, .int (iZ (bits μ p w))), (7, .int (iZ (((r + 1) : Nat) : Int)))]) (st1 := []) (v_c0 (v_c0 (v_c0 (v_c0 (v_c0 (v_c0 (v_c0 (v_cI (by omega) rfl)))))))) rfl ?_
            exact ih32 (r + 1) (upM ν1 (6 + 2 * y) r ((ν1 (6 + 2 * y) r) + (μ (37 + p) 0))) (by omega) (by omega) hT2
  refine v_sub [4, 5, 6, 7, 3, 2, 1, 0] rfl ?_
  refine v_eq (lv1 := [(0, .ref (vAd X 1)), (1, .ref (vAd X (2 + y))), (2, .int (iZ (p : Int))), (3, .int (iZ w)), (4, .ref (vAd X (37 + p))), (5, .int (iZ (bits μ p (μ (5 + 2 * y) p)))), (6, .int (iZ (bits μ p w))), (7, .int (iZ ((0 : Nat) : Int)))]) (st1 := []) (v_c0 (v_c0 (v_c0 (v_c0 (v_c0 (v_c0 (v_c0 (v_cI (by first | rfl | omega) rfl)))))))) rfl ?_
  exact L32 (9 - 0 + 1) 0 μ (by omega) (by omega) TKl_0
theorem c_X0_take (l : Launch) (hl : l.stackTraces = false) (D : va_G) (cy : Nat → ClassId) (ad : Nat → Nat) (μ : Mem) (y : Nat) (p : Nat) (w : Int) (hy : y < 2) (hp : p < 6) (hW : WF μ) (hw : -1 ≤ w ∧ w ≤ 4) (hch : -1 ≤ μ (5 + 2 * y) p ∧ μ (5 + 2 * y) p ≤ 4) : cV l yX0_take wsX0_take ({ frames := 1, cells := 0, slots := 0, locals := 21 } : Room) D cy ad μ [.ref (ad 1), .ref (ad (2 + y)), .int (iZ (p : Int)), .int (iZ w)] (fun (ν : Mem) => TK μ ν y p w) :=
  m_void (av := (fun ad => [.ref (ad 1), .ref (ad (2 + y)), .int (iZ (p : Int)), .int (iZ w)])) hl (by decide) rfl rfl (Nat.le_of_ble_eq_true rfl) (fun X K hret => b_X0_take y p w hy hp hW hw hch K hret)
theorem dX0_putWay_0 : decode cX0_putWay 0 = .ok (.aload_n 0, 1) := by decide +kernel
theorem dX0_putWay_1 : decode cX0_putWay 1 = .ok (.getfield 20, 3) := by decide +kernel
theorem dX0_putWay_4 : decode cX0_putWay 4 = .ok (.iload_n 2, 1) := by decide +kernel
theorem dX0_putWay_5 : decode cX0_putWay 5 = .ok (.aaload, 1) := by decide +kernel
theorem dX0_putWay_6 : decode cX0_putWay 6 = .ok (.astore 4, 2) := by decide +kernel
theorem dX0_putWay_8 : decode cX0_putWay 8 = .ok (.aload 4, 2) := by decide +kernel
theorem dX0_putWay_10 : decode cX0_putWay 10 = .ok (.getfield 51, 3) := by decide +kernel
theorem dX0_putWay_13 : decode cX0_putWay 13 = .ok (.istore 5, 2) := by decide +kernel
theorem dX0_putWay_15 : decode cX0_putWay 15 = .ok (.aload 4, 2) := by decide +kernel
theorem dX0_putWay_17 : decode cX0_putWay 17 = .ok (.getfield 54, 3) := by decide +kernel
theorem dX0_putWay_20 : decode cX0_putWay 20 = .ok (.iload 5, 2) := by decide +kernel
theorem dX0_putWay_22 : decode cX0_putWay 22 = .ok (.iload_n 3, 1) := by decide +kernel
theorem dX0_putWay_23 : decode cX0_putWay 23 = .ok (.iastore, 1) := by decide +kernel
theorem dX0_putWay_24 : decode cX0_putWay 24 = .ok (.aload 4, 2) := by decide +kernel
theorem dX0_putWay_26 : decode cX0_putWay 26 = .ok (.dup, 1) := by decide +kernel
theorem dX0_putWay_27 : decode cX0_putWay 27 = .ok (.getfield 51, 3) := by decide +kernel
theorem dX0_putWay_30 : decode cX0_putWay 30 = .ok (.iconst 1, 1) := by decide +kernel
theorem dX0_putWay_31 : decode cX0_putWay 31 = .ok (.iadd, 1) := by decide +kernel
theorem dX0_putWay_32 : decode cX0_putWay 32 = .ok (.putfield 51, 3) := by decide +kernel
theorem dX0_putWay_35 : decode cX0_putWay 35 = .ok (.iload 5, 2) := by decide +kernel
theorem dX0_putWay_37 : decode cX0_putWay 37 = .ok (.ifCond .ne 10, 3) := by decide +kernel
theorem dX0_putWay_47 : decode cX0_putWay 47 = .ok (.iload 5, 2) := by decide +kernel
theorem dX0_putWay_49 : decode cX0_putWay 49 = .ok (.ireturn, 1) := by decide +kernel
theorem dX0_putWay_40 : decode cX0_putWay 40 = .ok (.aload_n 0, 1) := by decide +kernel
theorem dX0_putWay_41 : decode cX0_putWay 41 = .ok (.aload_n 1, 1) := by decide +kernel
theorem dX0_putWay_42 : decode cX0_putWay 42 = .ok (.iload_n 2, 1) := by decide +kernel
theorem dX0_putWay_43 : decode cX0_putWay 43 = .ok (.iconst 0, 1) := by decide +kernel
theorem dX0_putWay_44 : decode cX0_putWay 44 = .ok (.invokevirtual 58, 3) := by decide +kernel
set_option maxRecDepth 20000 in
theorem ggX0_putWay_X0_take : GoodIn wsX0_putWay wsX0_take := goodIn_ca (goodIn_r _ [8, 1, 9, 10, 11, 12, 13, 14, 15, 16, 17, 18, 19, 20, 21, 22, 23, 24, 25, 26, 33, 34, 35, 27, 28, 29, 30, 31, 32] (by decide +kernel) (by decide +kernel)) (goodIn_sub (fun _ h => List.mem_cons_of_mem _ (List.mem_append_right _ h)) (by decide +kernel))
set_option maxRecDepth 20000 in
theorem gX0_putWay_X0_take : GoodIn wsX0_putWay (wsV RX0 58 RX0 yX0_take wsX0_take) := goodIn_app (goodIn_of _ (by decide +kernel)) ggX0_putWay_X0_take
set_option maxHeartbeats 4000000 in
set_option maxRecDepth 100000 in
theorem b_X0_putWay {X : VC} {μ : Mem} (y : Nat) (p : Nat) (b : Int) (hy : y < 2) (hp : p < 6) (hW : WF μ) (hb : 0 ≤ b ∧ b ≤ 255) (hn : μ (37 + p) 3 < 5) (hch : -1 ≤ μ (5 + 2 * y) p ∧ μ (5 + 2 * y) p ≤ 4) (K : vK X cX0_putWay 6 RX0 wsX0_putWay ({ frames := 2, cells := 0, slots := 0, locals := 48 } : Room)) (hret : ∀ (z : Int) (ν : Mem), (fun (z : Int) (ν : Mem) => z = μ (37 + p) 3 ∧ (∃ ν2, WPut μ ν2 p (μ (37 + p) 3).toNat b ∧ ((μ (37 + p) 3 = 0 ∧ TK ν2 ν y p 0) ∨ (μ (37 + p) 3 ≠ 0 ∧ ν = ν2)))) z ν → ∀ n pc k1 k2 lv, k1 ≤ 0 → k2 ≤ 0 → decode cX0_putWay pc = .ok (.ireturn, 1) → vW X n pc k1 k2 lv [.int (iZ z)] ν) : vW X 6 0 0 0 [(0, .ref (vAd X 1)), (1, .ref (vAd X (2 + y))), (2, .int (iZ (p : Int))), (3, .int (iZ b))] [] μ := by
  have hpl := hW.pl hp
  obtain ⟨n, hn0⟩ := nat_of hpl.2.2.2.2.2.2.1
  refine v_aload_n 0 K dX0_putWay_0 rfl ?_
  refine v_get (c := 1) (k := 1) (C := RX0) (T := TX0) (N := 4) (v := .ref (vAd X 20)) K isO_Bd rfl (fun _ h => (List.mem_cons_of_mem _ (List.mem_append_left _ (List.mem_append_left _ (List.mem_append_left _ (List.mem_append_right _ h)))))) (by decide) (List.mem_cons_of_mem _ (List.mem_append_left _ (List.mem_append_left _ (List.mem_append_left _ (List.mem_append_left _ (List.mem_of_getElem? (i := 0) rfl)))))) rfl dX0_putWay_1 rfl ?_
  refine v_iload_n 2 K dX0_putWay_4 rfl ?_
  refine v_aald (c := 20) p K isQ_Py rfl rfl (by omega) dX0_putWay_5 ?_
  refine v_astore [(4, .ref (vAd X (37 + p))), (0, .ref (vAd X 1)), (1, .ref (vAd X (2 + y))), (2, .int (iZ (p : Int))), (3, .int (iZ b))] K dX0_putWay_6 (by decide) rfl ?_
  refine v_aload 0 K dX0_putWay_8 rfl ?_
  refine v_get (c := (37 + p)) (k := 3) (C := RX4) (T := TX4) (N := 6) (v := .int (iZ (μ (37 + p) 3))) K (isO_Py (p := p) (by omega)) rfl (fun _ h => (List.mem_cons_of_mem _ (List.mem_append_left _ (List.mem_append_left _ (List.mem_append_right _ h))))) (by decide) (List.mem_cons_of_mem _ (List.mem_append_left _ (List.mem_append_left _ (List.mem_append_left _ (List.mem_append_left _ (List.mem_of_getElem? (i := 1) rfl)))))) rfl dX0_putWay_10 rfl ?_
  refine v_top (b := (n : Int)) (by rw [hn0]) ?_
  refine v_istore [(5, .int (iZ (n : Int))), (4, .ref (vAd X (37 + p))), (0, .ref (vAd X 1)), (1, .ref (vAd X (2 + y))), (2, .int (iZ (p : Int))), (3, .int (iZ b))] K dX0_putWay_13 (by decide) rfl ?_
  refine v_aload 1 K dX0_putWay_15 rfl ?_
  refine v_get (c := (37 + p)) (k := 4) (C := RX4) (T := TX4) (N := 6) (v := .ref (vAd X (43 + p))) K (isO_Py (p := p) (by omega)) rfl (fun _ h => (List.mem_cons_of_mem _ (List.mem_append_left _ (List.mem_append_left _ (List.mem_append_right _ h))))) (by decide) (List.mem_cons_of_mem _ (List.mem_append_left _ (List.mem_append_left _ (List.mem_append_left _ (List.mem_append_left _ (List.mem_of_getElem? (i := 2) rfl)))))) rfl dX0_putWay_17 rfl ?_
  refine v_iload 0 K dX0_putWay_20 rfl ?_
  refine v_iload_n 5 K dX0_putWay_22 rfl ?_
  refine v_iast (c := (43 + p)) n K (isI_wy (p := p) (by omega)) rfl (by omega) dX0_putWay_23 ?_
  obtain ⟨μ1, eμ1⟩ : ∃ μ1 : Mem, μ1 = (upM μ (43 + p) n b) := ⟨_, rfl⟩
  rw [← eμ1]
  refine v_aload 1 K dX0_putWay_24 rfl ?_
  refine v_dup rfl K dX0_putWay_26 ?_
  refine v_get (c := (37 + p)) (k := 3) (C := RX4) (T := TX4) (N := 6) (v := .int (iZ (μ1 (37 + p) 3))) K (isO_Py (p := p) (by omega)) rfl (fun _ h => (List.mem_cons_of_mem _ (List.mem_append_left _ (List.mem_append_left _ (List.mem_append_right _ h))))) (by decide) (List.mem_cons_of_mem _ (List.mem_append_left _ (List.mem_append_left _ (List.mem_append_left _ (List.mem_append_left _ (List.mem_of_getElem? (i := 1) rfl)))))) rfl dX0_putWay_27 rfl ?_
  refine v_top (b := (n : Int)) (by rw [eμ1, upM_off (by omega), hn0]) ?_
  refine v_iconst K dX0_putWay_30 ?_
  refine v_iadd K dX0_putWay_31 ?_
  refine v_put (c := (37 + p)) (k := 3) (C := RX4) (T := TX4) (N := 6) (ty := .int) K (isO_Py (p := p) (by omega)) rfl (fun _ h => (List.mem_cons_of_mem _ (List.mem_append_left _ (List.mem_append_left _ (List.mem_append_right _ h))))) tyX4_ok nmX4 (by decide) (List.mem_cons_of_mem _ (List.mem_append_left _ (List.mem_append_left _ (List.mem_append_left _ (List.mem_append_left _ (List.mem_of_getElem? (i := 1) rfl)))))) rfl rfl (by decide +kernel) dX0_putWay_32 (fun _ _ _ => rfl) (fun _ _ => Nat.le_of_ble_eq_true rfl) rfl rfl ?_
  obtain ⟨μ2, eμ2⟩ : ∃ μ2 : Mem, μ2 = (upM μ1 (37 + p) 3 ((n : Int) + 1)) := ⟨_, rfl⟩
  rw [← eμ2]
  refine v_iload 0 K dX0_putWay_35 rfl ?_
  refine v_if_ne 47 K dX0_putWay_37 (by decide) (by omega) (fun c37 => ?_) (fun c37 => ?_)
  · refine v_iload 0 K dX0_putWay_47 rfl ?_
    exact hret _ _ ⟨hn0.symm, μ2, (by rw [hn0]; exact ⟨μ1, eμ1, eμ2⟩), Or.inr ⟨by omega, rfl⟩⟩ _ _ _ _ _ (Nat.le_of_ble_eq_true rfl) (Nat.le_of_ble_eq_true rfl) dX0_putWay_49
  · refine v_aload_n 2 K dX0_putWay_40 rfl ?_
    refine v_aload_n 3 K dX0_putWay_41 rfl ?_
    refine v_iload_n 4 K dX0_putWay_42 rfl ?_
    refine v_iconst K dX0_putWay_43 ?_
    refine v_callVv (c := 1) (As := [.ref (vAd X (2 + y)), .int (iZ (p : Int)), .int (iZ 0)]) (rest := []) K isO_Bd rfl 3 (c_X0_take X.1.2.1 K.2.2.2.2.2.2 _ _ _ μ2 y p 0 hy hp (WPut_WF hW hp hb (by omega) eμ1 eμ2) (by omega) (by rw [show μ2 (5 + 2 * y) p = μ (5 + 2 * y) p by rw [eμ2, upM_off (by omega), eμ1, upM_off (by omega)]]; exact hch)) gX0_putWay_X0_take rfl rfl rfl (by decide +kernel) ⟨(Nat.le_of_ble_eq_true rfl), (Nat.le_of_ble_eq_true rfl)⟩ rfl rfl (Nat.le_of_ble_eq_true rfl) dX0_putWay_44 ⟨(Nat.le_of_ble_eq_true rfl), (Nat.le_of_ble_eq_true rfl)⟩ (fun μ3 q44 => ?_)
    refine v_iload 0 K dX0_putWay_47 rfl ?_
    exact hret _ _ ⟨hn0.symm, μ2, (by rw [hn0]; exact ⟨μ1, eμ1, eμ2⟩), Or.inl ⟨by omega, q44⟩⟩ _ _ _ _ _ (Nat.le_of_ble_eq_true rfl) (Nat.le_of_ble_eq_true rfl) dX0_putWay_49
theorem c_X0_putWay (l : Launch) (hl : l.stackTraces = false) (D : va_G) (cy : Nat → ClassId) (ad : Nat → Nat) (μ : Mem) (y : Nat) (p : Nat) (b : Int) (hy : y < 2) (hp : p < 6) (hW : WF μ) (hb : 0 ≤ b ∧ b ≤ 255) (hn : μ (37 + p) 3 < 5) (hch : -1 ≤ μ (5 + 2 * y) p ∧ μ (5 + 2 * y) p ≤ 4) : cI l yX0_putWay wsX0_putWay ({ frames := 2, cells := 0, slots := 0, locals := 48 } : Room) D cy ad μ [.ref (ad 1), .ref (ad (2 + y)), .int (iZ (p : Int)), .int (iZ b)] (fun (z : Int) (ν : Mem) => z = μ (37 + p) 3 ∧ (∃ ν2, WPut μ ν2 p (μ (37 + p) 3).toNat b ∧ ((μ (37 + p) 3 = 0 ∧ TK ν2 ν y p 0) ∨ (μ (37 + p) 3 ≠ 0 ∧ ν = ν2)))) :=
  m_int (av := (fun ad => [.ref (ad 1), .ref (ad (2 + y)), .int (iZ (p : Int)), .int (iZ b)])) hl (by decide) rfl rfl (Nat.le_of_ble_eq_true rfl) (fun _ _ _ => rfl) (fun X K hret => b_X0_putWay y p b hy hp hW hb hn hch K hret)
theorem dX0_isOpen_0 : decode cX0_isOpen 0 = .ok (.aload_n 0, 1) := by decide +kernel
theorem dX0_isOpen_1 : decode cX0_isOpen 1 = .ok (.getfield 20, 3) := by decide +kernel
theorem dX0_isOpen_4 : decode cX0_isOpen 4 = .ok (.iload_n 2, 1) := by decide +kernel
theorem dX0_isOpen_5 : decode cX0_isOpen 5 = .ok (.aaload, 1) := by decide +kernel
theorem dX0_isOpen_6 : decode cX0_isOpen 6 = .ok (.iload_n 3, 1) := by decide +kernel
theorem dX0_isOpen_7 : decode cX0_isOpen 7 = .ok (.invokevirtual 67, 3) := by decide +kernel
set_option maxRecDepth 20000 in
theorem ggX0_isOpen_X4_bitsOf : GoodIn wsX0_isOpen wsX4_bitsOf := goodIn_ca (goodIn_r _ [7, 8, 9, 17, 18, 19, 20, 21, 22] (by decide +kernel) (by decide +kernel)) (goodIn_sub (fun _ h => List.mem_cons_of_mem _ (List.mem_append_right _ h)) (by decide +kernel))
set_option maxRecDepth 20000 in
theorem gX0_isOpen_X4_bitsOf : GoodIn wsX0_isOpen (wsV RX0 67 RX4 yX4_bitsOf wsX4_bitsOf) := goodIn_app (goodIn_of _ (by decide +kernel)) ggX0_isOpen_X4_bitsOf
theorem dX0_isOpen_10 : decode cX0_isOpen 10 = .ok (.aload_n 1, 1) := by decide +kernel
theorem dX0_isOpen_11 : decode cX0_isOpen 11 = .ok (.getfield 78, 3) := by decide +kernel
theorem dX0_isOpen_14 : decode cX0_isOpen 14 = .ok (.iand, 1) := by decide +kernel
theorem dX0_isOpen_15 : decode cX0_isOpen 15 = .ok (.ifCond .ne 7, 3) := by decide +kernel
theorem dX0_isOpen_18 : decode cX0_isOpen 18 = .ok (.iconst 1, 1) := by decide +kernel
theorem dX0_isOpen_19 : decode cX0_isOpen 19 = .ok (.goto 4, 3) := by decide +kernel
theorem dX0_isOpen_23 : decode cX0_isOpen 23 = .ok (.ireturn, 1) := by decide +kernel
set_option maxHeartbeats 4000000 in
set_option maxRecDepth 100000 in
theorem b_X0_isOpen {X : VC} {μ : Mem} (y : Nat) (p : Nat) (w : Int) (hy : y < 2) (hp : p < 6) (hW : WF μ) (hw : -1 ≤ w ∧ w ≤ 100) (hc : μ (2 + y) 2 = 0) (K : vK X cX0_isOpen 4 RX0 wsX0_isOpen ({ frames := 1, cells := 0, slots := 0, locals := 21 } : Room)) (hret : ∀ (z : Int) (ν : Mem), (fun (z : Int) (ν : Mem) => z = 1 ∧ ν = μ) z ν → ∀ n pc k1 k2 lv, k1 ≤ 0 → k2 ≤ 0 → decode cX0_isOpen pc = .ok (.ireturn, 1) → vW X n pc k1 k2 lv [.int (iZ z)] ν) : vW X 4 0 0 0 [(0, .ref (vAd X 1)), (1, .ref (vAd X (2 + y))), (2, .int (iZ (p : Int))), (3, .int (iZ w))] [] μ := by
  refine v_aload_n 0 K dX0_isOpen_0 rfl ?_
  refine v_get (c := 1) (k := 1) (C := RX0) (T := TX0) (N := 4) (v := .ref (vAd X 20)) K isO_Bd rfl (fun _ h => (List.mem_cons_of_mem _ (List.mem_append_left _ (List.mem_append_left _ (List.mem_append_left _ (List.mem_append_right _ h)))))) (by decide) (List.mem_cons_of_mem _ (List.mem_append_left _ (List.mem_append_left _ (List.mem_append_left _ (List.mem_append_left _ (List.mem_of_getElem? (i := 0) rfl)))))) rfl dX0_isOpen_1 rfl ?_
  refine v_iload_n 2 K dX0_isOpen_4 rfl ?_
  refine v_aald (c := 20) p K isQ_Py rfl rfl (by omega) dX0_isOpen_5 ?_
  refine v_iload_n 3 K dX0_isOpen_6 rfl ?_
  refine v_callVir (c := (37 + p)) (As := [.int (iZ w)]) (rest := []) K (isO_Py (p := p) (by omega)) rfl 1 (c_X4_bitsOf X.1.2.1 K.2.2.2.2.2.2 _ _ _ μ p w hp hw hW) gX0_isOpen_X4_bitsOf rfl rfl rfl (by decide +kernel) ⟨(Nat.le_of_ble_eq_true rfl), (Nat.le_of_ble_eq_true rfl)⟩ rfl rfl (Nat.le_of_ble_eq_true rfl) dX0_isOpen_7 ⟨(Nat.le_of_ble_eq_true rfl), (Nat.le_of_ble_eq_true rfl)⟩ ?_
  refine v_aload_n 1 K dX0_isOpen_10 rfl ?_
  refine v_get (c := (2 + y)) (k := 2) (C := RX3) (T := TX3) (N := 3) (v := .int (iZ (μ (2 + y) 2))) K (isO_Pl (y := y) (by omega)) rfl (fun _ h => (List.mem_cons_of_mem _ (List.mem_append_left _ (List.mem_append_left _ (List.mem_append_right _ h))))) (by decide) (List.mem_cons_of_mem _ (List.mem_append_left _ (List.mem_append_left _ (List.mem_append_left _ (List.mem_append_left _ (List.mem_of_getElem? (i := 1) rfl)))))) rfl dX0_isOpen_11 rfl ?_
  refine v_top (b := 0) (by rw [hc]) ?_
  refine v_iand (z := 0) (iZ_and0 _) K dX0_isOpen_14 ?_
  refine v_if_ne 22 K dX0_isOpen_15 (by decide) (by decide) (fun c15 => (by exfalso; omega)) (fun c15 => ?_)
  refine v_iconst K dX0_isOpen_18 ?_
  refine v_goto 23 K dX0_isOpen_19 (by decide) ?_
  exact hret _ _ ⟨rfl, rfl⟩ _ _ _ _ _ (Nat.le_of_ble_eq_true rfl) (Nat.le_of_ble_eq_true rfl) dX0_isOpen_23
theorem c_X0_isOpen (l : Launch) (hl : l.stackTraces = false) (D : va_G) (cy : Nat → ClassId) (ad : Nat → Nat) (μ : Mem) (y : Nat) (p : Nat) (w : Int) (hy : y < 2) (hp : p < 6) (hW : WF μ) (hw : -1 ≤ w ∧ w ≤ 100) (hc : μ (2 + y) 2 = 0) : cI l yX0_isOpen wsX0_isOpen ({ frames := 1, cells := 0, slots := 0, locals := 21 } : Room) D cy ad μ [.ref (ad 1), .ref (ad (2 + y)), .int (iZ (p : Int)), .int (iZ w)] (fun (z : Int) (ν : Mem) => z = 1 ∧ ν = μ) :=
  m_int (av := (fun ad => [.ref (ad 1), .ref (ad (2 + y)), .int (iZ (p : Int)), .int (iZ w)])) hl (by decide) rfl rfl (Nat.le_of_ble_eq_true rfl) (fun z ν q => (nar_z (by have := q.1; omega)).1) (fun X K hret => b_X0_isOpen y p w hy hp hW hw hc K hret)
theorem dX0_costAlone_0 : decode cX0_costAlone 0 = .ok (.aload_n 0, 1) := by decide +kernel
theorem dX0_costAlone_1 : decode cX0_costAlone 1 = .ok (.getfield 20, 3) := by decide +kernel
theorem dX0_costAlone_4 : decode cX0_costAlone 4 = .ok (.iload_n 2, 1) := by decide +kernel
theorem dX0_costAlone_5 : decode cX0_costAlone 5 = .ok (.aaload, 1) := by decide +kernel
theorem dX0_costAlone_6 : decode cX0_costAlone 6 = .ok (.astore 4, 2) := by decide +kernel
theorem dX0_costAlone_8 : decode cX0_costAlone 8 = .ok (.aload 4, 2) := by decide +kernel
theorem dX0_costAlone_10 : decode cX0_costAlone 10 = .ok (.aload_n 1, 1) := by decide +kernel
theorem dX0_costAlone_11 : decode cX0_costAlone 11 = .ok (.getfield 62, 3) := by decide +kernel
theorem dX0_costAlone_14 : decode cX0_costAlone 14 = .ok (.iload_n 2, 1) := by decide +kernel
theorem dX0_costAlone_15 : decode cX0_costAlone 15 = .ok (.iaload, 1) := by decide +kernel
theorem dX0_costAlone_16 : decode cX0_costAlone 16 = .ok (.invokevirtual 67, 3) := by decide +kernel
set_option maxRecDepth 20000 in
theorem ggX0_costAlone_X4_bitsOf : GoodIn wsX0_costAlone wsX4_bitsOf := goodIn_ca (goodIn_r _ [13, 14, 15, 32, 33, 34, 35, 36, 37] (by decide +kernel) (by decide +kernel)) (goodIn_sub (fun _ h => List.mem_cons_of_mem _ (List.mem_append_right _ h)) (by decide +kernel))
set_option maxRecDepth 20000 in
theorem gX0_costAlone_X4_bitsOf : GoodIn wsX0_costAlone (wsV RX0 67 RX4 yX4_bitsOf wsX4_bitsOf) := goodIn_app (goodIn_of _ (by decide +kernel)) ggX0_costAlone_X4_bitsOf
theorem dX0_costAlone_19 : decode cX0_costAlone 19 = .ok (.istore 5, 2) := by decide +kernel
theorem dX0_costAlone_21 : decode cX0_costAlone 21 = .ok (.aload 4, 2) := by decide +kernel
theorem dX0_costAlone_23 : decode cX0_costAlone 23 = .ok (.iload_n 3, 1) := by decide +kernel
theorem dX0_costAlone_24 : decode cX0_costAlone 24 = .ok (.invokevirtual 67, 3) := by decide +kernel
theorem dX0_costAlone_27 : decode cX0_costAlone 27 = .ok (.istore 6, 2) := by decide +kernel
theorem dX0_costAlone_29 : decode cX0_costAlone 29 = .ok (.iconst 0, 1) := by decide +kernel
theorem dX0_costAlone_30 : decode cX0_costAlone 30 = .ok (.istore 7, 2) := by decide +kernel
theorem dX0_costAlone_32 : decode cX0_costAlone 32 = .ok (.iconst 0, 1) := by decide +kernel
theorem dX0_costAlone_33 : decode cX0_costAlone 33 = .ok (.istore 8, 2) := by decide +kernel
theorem dX0_costAlone_35 : decode cX0_costAlone 35 = .ok (.iload 8, 2) := by decide +kernel
theorem dX0_costAlone_37 : decode cX0_costAlone 37 = .ok (.aload_n 0, 1) := by decide +kernel
theorem dX0_costAlone_38 : decode cX0_costAlone 38 = .ok (.getfield 25, 3) := by decide +kernel
theorem dX0_costAlone_41 : decode cX0_costAlone 41 = .ok (.if_icmp .ge 82, 3) := by decide +kernel
theorem dX0_costAlone_123 : decode cX0_costAlone 123 = .ok (.iload 7, 2) := by decide +kernel
theorem dX0_costAlone_125 : decode cX0_costAlone 125 = .ok (.ireturn, 1) := by decide +kernel
theorem dX0_costAlone_44 : decode cX0_costAlone 44 = .ok (.iload 6, 2) := by decide +kernel
theorem dX0_costAlone_46 : decode cX0_costAlone 46 = .ok (.iload 8, 2) := by decide +kernel
theorem dX0_costAlone_48 : decode cX0_costAlone 48 = .ok (.invokestatic 71, 3) := by decide +kernel
set_option maxRecDepth 20000 in
theorem ggX0_costAlone_X7_hasBit : GoodIn wsX0_costAlone wsX7_hasBit := goodIn_r _ [18] (by decide +kernel) (by decide +kernel)
set_option maxRecDepth 20000 in
theorem gX0_costAlone_X7_hasBit_n71 : GoodIn wsX0_costAlone (wsX7_hasBit) := ggX0_costAlone_X7_hasBit
theorem dX0_costAlone_51 : decode cX0_costAlone 51 = .ok (.ifCond .eq 66, 3) := by decide +kernel
theorem dX0_costAlone_117 : decode cX0_costAlone 117 = .ok (.iinc 8 1, 3) := by decide +kernel
theorem dX0_costAlone_120 : decode cX0_costAlone 120 = .ok (.goto (-85), 3) := by decide +kernel
theorem dX0_costAlone_54 : decode cX0_costAlone 54 = .ok (.aload_n 1, 1) := by decide +kernel
theorem dX0_costAlone_55 : decode cX0_costAlone 55 = .ok (.getfield 75, 3) := by decide +kernel
theorem dX0_costAlone_58 : decode cX0_costAlone 58 = .ok (.iload 8, 2) := by decide +kernel
theorem dX0_costAlone_80 : decode cX0_costAlone 80 = .ok (.iadd, 1) := by decide +kernel
theorem dX0_costAlone_81 : decode cX0_costAlone 81 = .ok (.istore 9, 2) := by decide +kernel
theorem dX0_costAlone_83 : decode cX0_costAlone 83 = .ok (.iload 7, 2) := by decide +kernel
theorem dX0_costAlone_85 : decode cX0_costAlone 85 = .ok (.aload_n 0, 1) := by decide +kernel
theorem dX0_costAlone_86 : decode cX0_costAlone 86 = .ok (.getfield 11, 3) := by decide +kernel
theorem dX0_costAlone_89 : decode cX0_costAlone 89 = .ok (.iload 8, 2) := by decide +kernel
theorem dX0_costAlone_91 : decode cX0_costAlone 91 = .ok (.aaload, 1) := by decide +kernel
theorem dX0_costAlone_92 : decode cX0_costAlone 92 = .ok (.iload 9, 2) := by decide +kernel
theorem dX0_costAlone_94 : decode cX0_costAlone 94 = .ok (.invokevirtual 88, 3) := by decide +kernel
set_option maxRecDepth 20000 in
theorem ggX0_costAlone_X5_delayBy : GoodIn wsX0_costAlone wsX5_delayBy := goodIn_ca (goodIn_r _ [23, 24, 38, 39, 40, 41, 42, 43, 44] (by decide +kernel) (by decide +kernel)) (goodIn_sub (fun _ h => List.mem_cons_of_mem _ (List.mem_append_right _ h)) (by decide +kernel))
set_option maxRecDepth 20000 in
theorem gX0_costAlone_X5_delayBy : GoodIn wsX0_costAlone (wsV RX0 88 RX5 yX5_delayBy wsX5_delayBy) := goodIn_app (goodIn_of _ (by decide +kernel)) ggX0_costAlone_X5_delayBy
theorem dX0_costAlone_97 : decode cX0_costAlone 97 = .ok (.aload_n 0, 1) := by decide +kernel
theorem dX0_costAlone_98 : decode cX0_costAlone 98 = .ok (.getfield 11, 3) := by decide +kernel
theorem dX0_costAlone_101 : decode cX0_costAlone 101 = .ok (.iload 8, 2) := by decide +kernel
theorem dX0_costAlone_103 : decode cX0_costAlone 103 = .ok (.aaload, 1) := by decide +kernel
theorem dX0_costAlone_104 : decode cX0_costAlone 104 = .ok (.getfield 91, 3) := by decide +kernel
theorem dX0_costAlone_107 : decode cX0_costAlone 107 = .ok (.aload 4, 2) := by decide +kernel
theorem dX0_costAlone_109 : decode cX0_costAlone 109 = .ok (.getfield 48, 3) := by decide +kernel
theorem dX0_costAlone_112 : decode cX0_costAlone 112 = .ok (.imul, 1) := by decide +kernel
theorem dX0_costAlone_113 : decode cX0_costAlone 113 = .ok (.iadd, 1) := by decide +kernel
theorem dX0_costAlone_114 : decode cX0_costAlone 114 = .ok (.iadd, 1) := by decide +kernel
theorem dX0_costAlone_115 : decode cX0_costAlone 115 = .ok (.istore 7, 2) := by decide +kernel
theorem dX0_costAlone_60 : decode cX0_costAlone 60 = .ok (.iaload, 1) := by decide +kernel
theorem dX0_costAlone_61 : decode cX0_costAlone 61 = .ok (.iload 5, 2) := by decide +kernel
theorem dX0_costAlone_63 : decode cX0_costAlone 63 = .ok (.iload 8, 2) := by decide +kernel
theorem dX0_costAlone_65 : decode cX0_costAlone 65 = .ok (.invokestatic 71, 3) := by decide +kernel
theorem dX0_costAlone_68 : decode cX0_costAlone 68 = .ok (.ifCond .eq 7, 3) := by decide +kernel
theorem dX0_costAlone_75 : decode cX0_costAlone 75 = .ok (.aload 4, 2) := by decide +kernel
theorem dX0_costAlone_77 : decode cX0_costAlone 77 = .ok (.getfield 45, 3) := by decide +kernel
theorem dX0_costAlone_71 : decode cX0_costAlone 71 = .ok (.iconst 0, 1) := by decide +kernel
theorem dX0_costAlone_72 : decode cX0_costAlone 72 = .ok (.goto 8, 3) := by decide +kernel
set_option maxHeartbeats 4000000 in
set_option maxRecDepth 100000 in
theorem b_X0_costAlone {X : VC} {μ : Mem} (y : Nat) (p : Nat) (w : Int) (hy : y < 2) (hp : p < 6) (hW : WF μ) (hB : PB μ y) (hw : -1 ≤ w ∧ w ≤ 4) (K : vK X cX0_costAlone 10 RX0 wsX0_costAlone ({ frames := 1, cells := 0, slots := 0, locals := 21 } : Room)) (hret : ∀ (z : Int) (ν : Mem), (fun (z : Int) (ν : Mem) => z = cst μ y p w ∧ ν = μ) z ν → ∀ n pc k1 k2 lv, k1 ≤ 0 → k2 ≤ 0 → decode cX0_costAlone pc = .ok (.ireturn, 1) → vW X n pc k1 k2 lv [.int (iZ z)] ν) : vW X 10 0 0 0 [(0, .ref (vAd X 1)), (1, .ref (vAd X (2 + y))), (2, .int (iZ (p : Int))), (3, .int (iZ w))] [] μ := by
  have hrc := hW.rc8
  have hpl := hW.pl hp
  have hch := hB.1 p hp
  have hb1 := bits_rng hW hp (μ (5 + 2 * y) p)
  have hb2 := bits_rng hW hp w
  refine v_aload_n 0 K dX0_costAlone_0 rfl ?_
  refine v_get (c := 1) (k := 1) (C := RX0) (T := TX0) (N := 4) (v := .ref (vAd X 20)) K isO_Bd rfl (fun _ h => (List.mem_cons_of_mem _ (List.mem_append_left _ (List.mem_append_left _ (List.mem_append_left _ (List.mem_append_left _ (List.mem_append_right _ h))))))) (by decide) (List.mem_cons_of_mem _ (List.mem_append_left _ (List.mem_append_left _ (List.mem_append_left _ (List.mem_append_left _ (List.mem_append_left _ (List.mem_of_getElem? (i := 0) rfl))))))) rfl dX0_costAlone_1 rfl ?_
  refine v_iload_n 2 K dX0_costAlone_4 rfl ?_
  refine v_aald (c := 20) p K isQ_Py rfl rfl (by omega) dX0_costAlone_5 ?_
  refine v_astore [(4, .ref (vAd X (37 + p))), (0, .ref (vAd X 1)), (1, .ref (vAd X (2 + y))), (2, .int (iZ (p : Int))), (3, .int (iZ w))] K dX0_costAlone_6 (by decide) rfl ?_
  refine v_aload 0 K dX0_costAlone_8 rfl ?_
  refine v_aload_n 2 K dX0_costAlone_10 rfl ?_
  refine v_get (c := (2 + y)) (k := 0) (C := RX3) (T := TX3) (N := 3) (v := .ref (vAd X (5 + 2 * y))) K (isO_Pl (y := y) (by omega)) rfl (fun _ h => (List.mem_cons_of_mem _ (List.mem_append_left _ (List.mem_append_left _ (List.mem_append_left _ (List.mem_append_right _ h)))))) (by decide) (List.mem_cons_of_mem _ (List.mem_append_left _ (List.mem_append_left _ (List.mem_append_left _ (List.mem_append_left _ (List.mem_append_left _ (List.mem_of_getElem? (i := 1) rfl))))))) rfl dX0_costAlone_11 rfl ?_
  refine v_iload_n 3 K dX0_costAlone_14 rfl ?_
  refine v_iald (c := (5 + 2 * y)) p K (isI_ch (y := y) (by omega)) rfl (by omega) dX0_costAlone_15 ?_
  refine v_callVir (c := (37 + p)) (As := [.int (iZ (μ (5 + 2 * y) p))]) (rest := []) K (isO_Py (p := p) (by omega)) rfl 1 (c_X4_bitsOf X.1.2.1 K.2.2.2.2.2.2 _ _ _ μ p (μ (5 + 2 * y) p) hp (by omega) hW) gX0_costAlone_X4_bitsOf rfl rfl rfl (by decide +kernel) ⟨(Nat.le_of_ble_eq_true rfl), (Nat.le_of_ble_eq_true rfl)⟩ rfl rfl (Nat.le_of_ble_eq_true rfl) dX0_costAlone_16 ⟨(Nat.le_of_ble_eq_true rfl), (Nat.le_of_ble_eq_true rfl)⟩ ?_
  refine v_istore [(5, .int (iZ (bits μ p (μ (5 + 2 * y) p)))), (4, .ref (vAd X (37 + p))), (0, .ref (vAd X 1)), (1, .ref (vAd X (2 + y))), (2, .int (iZ (p : Int))), (3, .int (iZ w))] K dX0_costAlone_19 (by decide) rfl ?_
  refine v_aload 1 K dX0_costAlone_21 rfl ?_
  refine v_iload_n 5 K dX0_costAlone_23 rfl ?_
  refine v_callVir (c := (37 + p)) (As := [.int (iZ w)]) (rest := []) K (isO_Py (p := p) (by omega)) rfl 1 (c_X4_bitsOf X.1.2.1 K.2.2.2.2.2.2 _ _ _ μ p w hp (by omega) hW) gX0_costAlone_X4_bitsOf rfl rfl rfl (by decide +kernel) ⟨(Nat.le_of_ble_eq_true rfl), (Nat.le_of_ble_eq_true rfl)⟩ rfl rfl (Nat.le_of_ble_eq_true rfl) dX0_costAlone_24 ⟨(Nat.le_of_ble_eq_true rfl), (Nat.le_of_ble_eq_true rfl)⟩ ?_
  refine v_istore [(6, .int (iZ (bits μ p w))), (5, .int (iZ (bits μ p (μ (5 + 2 * y) p)))), (4, .ref (vAd X (37 + p))), (0, .ref (vAd X 1)), (1, .ref (vAd X (2 + y))), (2, .int (iZ (p : Int))), (3, .int (iZ w))] K dX0_costAlone_27 (by decide) rfl ?_
  refine v_iconst K dX0_costAlone_29 ?_
  refine v_istore [(7, .int (iZ 0)), (6, .int (iZ (bits μ p w))), (5, .int (iZ (bits μ p (μ (5 + 2 * y) p)))), (4, .ref (vAd X (37 + p))), (0, .ref (vAd X 1)), (1, .ref (vAd X (2 + y))), (2, .int (iZ (p : Int))), (3, .int (iZ w))] K dX0_costAlone_30 (by decide) rfl ?_
  refine v_iconst K dX0_costAlone_32 ?_
  refine v_istore [(8, .int (iZ 0)), (7, .int (iZ 0)), (6, .int (iZ (bits μ p w))), (5, .int (iZ (bits μ p (μ (5 + 2 * y) p)))), (4, .ref (vAd X (37 + p))), (0, .ref (vAd X 1)), (1, .ref (vAd X (2 + y))), (2, .int (iZ (p : Int))), (3, .int (iZ w))] K dX0_costAlone_33 (by decide) rfl ?_
  have L35 : ∀ (fuel : Nat) (r : Nat) (hm : 9 - r < fuel) (hr : r ≤ rc μ), vW X 10 35 0 0 [(0, .ref (vAd X 1)), (1, .ref (vAd X (2 + y))), (2, .int (iZ (p : Int))), (3, .int (iZ w)), (4, .ref (vAd X (37 + p))), (5, .int (iZ (bits μ p (μ (5 + 2 * y) p)))), (6, .int (iZ (bits μ p w))), (7, .int (iZ (sm r (cstT μ y p w)))), (8, .int (iZ (r : Int)))] [] μ := by
    intro fuel
    induction fuel with
    | zero => intro r hm; exact absurd hm (Nat.not_lt_zero _)
    | succ fuel ih35 =>
      intro r hm hr
      refine v_iload 8 K dX0_costAlone_35 rfl ?_
      refine v_aload_n 0 K dX0_costAlone_37 rfl ?_
      refine v_get (c := 1) (k := 2) (C := RX0) (T := TX0) (N := 4) (v := .int (iZ (μ 1 2))) K isO_Bd rfl (fun _ h => (List.mem_cons_of_mem _ (List.mem_append_left _ (List.mem_append_left _ (List.mem_append_left _ (List.mem_append_left _ (List.mem_append_right _ h))))))) (by decide) (List.mem_cons_of_mem _ (List.mem_append_left _ (List.mem_append_left _ (List.mem_append_left _ (List.mem_append_left _ (List.mem_append_left _ (List.mem_of_getElem? (i := 2) rfl))))))) rfl dX0_costAlone_38 rfl ?_
      refine v_icmp_ge 123 K dX0_costAlone_41 (by decide) (by omega) (by omega) (fun c41 => ?_) (fun c41 => ?_)
      · refine v_iload 7 K dX0_costAlone_123 rfl ?_
        exact hret _ _ ⟨(by unfold cst; rw [show rc μ = r by omega]), rfl⟩ _ _ _ _ _ (Nat.le_of_ble_eq_true rfl) (Nat.le_of_ble_eq_true rfl) dX0_costAlone_125
      · have hld := hB.2.1 r (by omega)
        have h01 := tz_01 (bits μ p (μ (5 + 2 * y) p)) r
        have h02 := tz_01 (bits μ p w) r
        refine v_iload 6 K dX0_costAlone_44 rfl ?_
        refine v_iload 8 K dX0_costAlone_46 rfl ?_
        refine v_callNir (host := RX7) (As := [.int (iZ (bits μ p w)), .int (iZ (r : Int))]) (rest := []) K 2 (c_X7_hasBit X.1.2.1 K.2.2.2.2.2.2 _ _ _ μ (bits μ p w) r (by omega) (by omega)) gX0_costAlone_X7_hasBit_n71 rfl rfl rfl (by decide +kernel) (List.mem_cons_of_mem _ (List.mem_append_left _ (List.mem_append_left _ (List.mem_append_left _ (List.mem_append_left _ (List.mem_append_left _ (List.mem_of_getElem? (i := 16) rfl))))))) (List.mem_cons_of_mem _ (List.mem_append_left _ (List.mem_append_left _ (List.mem_append_left _ (List.mem_append_left _ (List.mem_append_left _ (List.mem_of_getElem? (i := 15) rfl))))))) (by decide +kernel) ⟨(Nat.le_of_ble_eq_true rfl), (Nat.le_of_ble_eq_true rfl)⟩ rfl rfl (Nat.le_of_ble_eq_true rfl) dX0_costAlone_48 ⟨(Nat.le_of_ble_eq_true rfl), (Nat.le_of_ble_eq_true rfl)⟩ ?_
        refine v_if_eq 117 K dX0_costAlone_51 (by decide) (by omega) (fun c51 => ?_) (fun c51 => ?_)
        · refine v_iinc 8 [(8, .int (iZ ((r : Int) + 1))), (0, .ref (vAd X 1)), (1, .ref (vAd X (2 + y))), (2, .int (iZ (p : Int))), (3, .int (iZ w)), (4, .ref (vAd X (37 + p))), (5, .int (iZ (bits μ p (μ (5 + 2 * y) p)))), (6, .int (iZ (bits μ p w))), (7, .int (iZ (sm r (cstT μ y p w))))] K dX0_costAlone_117 rfl (by decide) rfl ?_
          refine v_goto 35 K dX0_costAlone_120 (by decide) ?_
          refine v_sub [1, 2, 3, 4, 5, 6, 7, 8, 0] rfl ?_
          refine v_eq (lv1 := [(0, .ref (vAd X 1)), (1, .ref (vAd X (2 + y))), (2, .int (iZ (p : Int))), (3, .int (iZ w)), (4, .ref (vAd X (37 + p))), (5, .int (iZ (bits μ p (μ (5 + 2 * y) p)))), (6, .int (iZ (bits μ p w))), (7, .int (iZ (sm (r + 1) (cstT μ y p w)))), (8, .int (iZ (((r + 1) : Nat) : Int)))]) (st1 := []) (v_c0 (v_c0 (v_c0 (v_c0 (v_c0 (v_c0 (v_c0 (v_cI (by first | rw [sm_s, cstT_y (by omega)] | (rw [sm_s, cstT_n (by omega)]; omega)) (v_cI (by first | rfl | omega) rfl))))))))) rfl ?_
          exact ih35 (r + 1) (by omega) (by omega)
        · refine v_aload_n 1 K dX0_costAlone_54 rfl ?_
          refine v_get (c := (2 + y)) (k := 1) (C := RX3) (T := TX3) (N := 3) (v := .ref (vAd X (6 + 2 * y))) K (isO_Pl (y := y) (by omega)) rfl (fun _ h => (List.mem_cons_of_mem _ (List.mem_append_left _ (List.mem_append_left _ (List.mem_append_left _ (List.mem_append_right _ h)))))) (by decide) (List.mem_cons_of_mem _ (List.mem_append_left _ (List.mem_append_left _ (List.mem_append_left _ (List.mem_append_left _ (List.mem_append_left _ (List.mem_of_getElem? (i := 3) rfl))))))) rfl dX0_costAlone_55 rfl ?_
          refine v_iload 8 K dX0_costAlone_58 rfl ?_
          have L80 : vW X 10 80 0 0 [(0, .ref (vAd X 1)), (1, .ref (vAd X (2 + y))), (2, .int (iZ (p : Int))), (3, .int (iZ w)), (4, .ref (vAd X (37 + p))), (5, .int (iZ (bits μ p (μ (5 + 2 * y) p)))), (6, .int (iZ (bits μ p w))), (7, .int (iZ (sm r (cstT μ y p w)))), (8, .int (iZ (r : Int)))] [.int (iZ (if tz (bits μ p (μ (5 + 2 * y) p)) r = 1 then 0 else μ (37 + p) 0)), .int (iZ (μ (6 + 2 * y) r))] μ := by
            refine v_iadd K dX0_costAlone_80 ?_
            refine v_istore [(9, .int (iZ ((μ (6 + 2 * y) r) + (if tz (bits μ p (μ (5 + 2 * y) p)) r = 1 then 0 else μ (37 + p) 0)))), (0, .ref (vAd X 1)), (1, .ref (vAd X (2 + y))), (2, .int (iZ (p : Int))), (3, .int (iZ w)), (4, .ref (vAd X (37 + p))), (5, .int (iZ (bits μ p (μ (5 + 2 * y) p)))), (6, .int (iZ (bits μ p w))), (7, .int (iZ (sm r (cstT μ y p w)))), (8, .int (iZ (r : Int)))] K dX0_costAlone_81 (by decide) rfl ?_
            refine v_iload 8 K dX0_costAlone_83 rfl ?_
            refine v_aload_n 1 K dX0_costAlone_85 rfl ?_
            refine v_get (c := 1) (k := 0) (C := RX0) (T := TX0) (N := 4) (v := .ref (vAd X 19)) K isO_Bd rfl (fun _ h => (List.mem_cons_of_mem _ (List.mem_append_left _ (List.mem_append_left _ (List.mem_append_left _ (List.mem_append_left _ (List.mem_append_right _ h))))))) (by decide) (List.mem_cons_of_mem _ (List.mem_append_left _ (List.mem_append_left _ (List.mem_append_left _ (List.mem_append_left _ (List.mem_append_left _ (List.mem_of_getElem? (i := 5) rfl))))))) rfl dX0_costAlone_86 rfl ?_
            refine v_iload 9 K dX0_costAlone_89 rfl ?_
            refine v_aald (c := 19) r K isQ_Rs rfl rfl (by omega) dX0_costAlone_91 ?_
            refine v_iload 0 K dX0_costAlone_92 rfl ?_
            refine v_callVir (c := (21 + r)) (As := [.int (iZ ((μ (6 + 2 * y) r) + (if tz (bits μ p (μ (5 + 2 * y) p)) r = 1 then 0 else μ (37 + p) 0)))]) (rest := [.int (iZ (sm r (cstT μ y p w)))]) K (isO_Rs (r := r) (by omega)) rfl 1 (c_X5_delayBy X.1.2.1 K.2.2.2.2.2.2 _ _ _ μ r ((μ (6 + 2 * y) r) + (if tz (bits μ p (μ (5 + 2 * y) p)) r = 1 then 0 else μ (37 + p) 0)) (by omega) (by split <;> omega)) gX0_costAlone_X5_delayBy rfl rfl rfl (by decide +kernel) ⟨(Nat.le_of_ble_eq_true rfl), (Nat.le_of_ble_eq_true rfl)⟩ rfl rfl (Nat.le_of_ble_eq_true rfl) dX0_costAlone_94 ⟨(Nat.le_of_ble_eq_true rfl), (Nat.le_of_ble_eq_true rfl)⟩ ?_
            refine v_aload_n 1 K dX0_costAlone_97 rfl ?_
            refine v_get (c := 1) (k := 0) (C := RX0) (T := TX0) (N := 4) (v := .ref (vAd X 19)) K isO_Bd rfl (fun _ h => (List.mem_cons_of_mem _ (List.mem_append_left _ (List.mem_append_left _ (List.mem_append_left _ (List.mem_append_left _ (List.mem_append_right _ h))))))) (by decide) (List.mem_cons_of_mem _ (List.mem_append_left _ (List.mem_append_left _ (List.mem_append_left _ (List.mem_append_left _ (List.mem_append_left _ (List.mem_of_getElem? (i := 5) rfl))))))) rfl dX0_costAlone_98 rfl ?_
            refine v_iload 9 K dX0_costAlone_101 rfl ?_
            refine v_aald (c := 19) r K isQ_Rs rfl rfl (by omega) dX0_costAlone_103 ?_
            refine v_get (c := (21 + r)) (k := 5) (C := RX5) (T := TX5) (N := 7) (v := .int (iZ (μ (21 + r) 5))) K (isO_Rs (r := r) (by omega)) rfl (fun _ h => (List.mem_cons_of_mem _ (List.mem_append_left _ (List.mem_append_right _ h)))) (by decide) (List.mem_cons_of_mem _ (List.mem_append_left _ (List.mem_append_left _ (List.mem_append_left _ (List.mem_append_left _ (List.mem_append_left _ (List.mem_of_getElem? (i := 6) rfl))))))) rfl dX0_costAlone_104 rfl ?_
            refine v_aload 5 K dX0_costAlone_107 rfl ?_
            refine v_get (c := (37 + p)) (k := 1) (C := RX4) (T := TX4) (N := 6) (v := .int (iZ (μ (37 + p) 1))) K (isO_Py (p := p) (by omega)) rfl (fun _ h => (List.mem_cons_of_mem _ (List.mem_append_left _ (List.mem_append_left _ (List.mem_append_right _ h))))) (by decide) (List.mem_cons_of_mem _ (List.mem_append_left _ (List.mem_append_left _ (List.mem_append_left _ (List.mem_append_left _ (List.mem_append_left _ (List.mem_of_getElem? (i := 7) rfl))))))) rfl dX0_costAlone_109 rfl ?_
            refine v_imul K dX0_costAlone_112 ?_
            refine v_iadd K dX0_costAlone_113 ?_
            refine v_iadd K dX0_costAlone_114 ?_
            refine v_istore [(7, .int (iZ ((sm r (cstT μ y p w)) + ((dly μ r ((μ (6 + 2 * y) r) + (if tz (bits μ p (μ (5 + 2 * y) p)) r = 1 then 0 else μ (37 + p) 0))) + ((μ (21 + r) 5) * (μ (37 + p) 1)))))), (9, .int (iZ ((μ (6 + 2 * y) r) + (if tz (bits μ p (μ (5 + 2 * y) p)) r = 1 then 0 else μ (37 + p) 0)))), (0, .ref (vAd X 1)), (1, .ref (vAd X (2 + y))), (2, .int (iZ (p : Int))), (3, .int (iZ w)), (4, .ref (vAd X (37 + p))), (5, .int (iZ (bits μ p (μ (5 + 2 * y) p)))), (6, .int (iZ (bits μ p w))), (8, .int (iZ (r : Int)))] K dX0_costAlone_115 (by decide) rfl ?_
            refine v_iinc 9 [(8, .int (iZ ((r : Int) + 1))), (7, .int (iZ ((sm r (cstT μ y p w)) + ((dly μ r ((μ (6 + 2 * y) r) + (if tz (bits μ p (μ (5 + 2 * y) p)) r = 1 then 0 else μ (37 + p) 0))) + ((μ (21 + r) 5) * (μ (37 + p) 1)))))), (9, .int (iZ ((μ (6 + 2 * y) r) + (if tz (bits μ p (μ (5 + 2 * y) p)) r = 1 then 0 else μ (37 + p) 0)))), (0, .ref (vAd X 1)), (1, .ref (vAd X (2 + y))), (2, .int (iZ (p : Int))), (3, .int (iZ w)), (4, .ref (vAd X (37 + p))), (5, .int (iZ (bits μ p (μ (5 + 2 * y) p)))), (6, .int (iZ (bits μ p w)))] K dX0_costAlone_117 rfl (by decide) rfl ?_
            refine v_goto 35 K dX0_costAlone_120 (by decide) ?_
            refine v_sub [3, 4, 5, 6, 7, 8, 9, 1, 0] rfl ?_
            refine v_eq (lv1 := [(0, .ref (vAd X 1)), (1, .ref (vAd X (2 + y))), (2, .int (iZ (p : Int))), (3, .int (iZ w)), (4, .ref (vAd X (37 + p))), (5, .int (iZ (bits μ p (μ (5 + 2 * y) p)))), (6, .int (iZ (bits μ p w))), (7, .int (iZ (sm (r + 1) (cstT μ y p w)))), (8, .int (iZ (((r + 1) : Nat) : Int)))]) (st1 := []) (v_c0 (v_c0 (v_c0 (v_c0 (v_c0 (v_c0 (v_c0 (v_cI (by first | rw [sm_s, cstT_y (by omega)] | (rw [sm_s, cstT_n (by omega)]; omega)) (v_cI (by first | rfl | omega) rfl))))))))) rfl ?_
            exact ih35 (r + 1) (by omega) (by omega)
          refine v_iald (c := (6 + 2 * y)) r K (isI_ld (y := y) (by omega)) rfl (by omega) dX0_costAlone_60 ?_
          refine v_iload 5 K dX0_costAlone_61 rfl ?_
          refine v_iload 8 K dX0_costAlone_63 rfl ?_
          refine v_callNir (host := RX7) (As := [.int (iZ (bits μ p (μ (5 + 2 * y) p))), .int (iZ (r : Int))]) (rest := [.int (iZ (μ (6 + 2 * y) r))]) K 2 (c_X7_hasBit X.1.2.1 K.2.2.2.2.2.2 _ _ _ μ (bits μ p (μ (5 + 2 * y) p)) r (by omega) (by omega)) gX0_costAlone_X7_hasBit_n71 rfl rfl rfl (by decide +kernel) (List.mem_cons_of_mem _ (List.mem_append_left _ (List.mem_append_left _ (List.mem_append_left _ (List.mem_append_left _ (List.mem_append_left _ (List.mem_of_getElem? (i := 16) rfl))))))) (List.mem_cons_of_mem _ (List.mem_append_left _ (List.mem_append_left _ (List.mem_append_left _ (List.mem_append_left _ (List.mem_append_left _ (List.mem_of_getElem? (i := 15) rfl))))))) (by decide +kernel) ⟨(Nat.le_of_ble_eq_true rfl), (Nat.le_of_ble_eq_true rfl)⟩ rfl rfl (Nat.le_of_ble_eq_true rfl) dX0_costAlone_65 ⟨(Nat.le_of_ble_eq_true rfl), (Nat.le_of_ble_eq_true rfl)⟩ ?_
          refine v_if_eq 75 K dX0_costAlone_68 (by decide) (by omega) (fun c68 => ?_) (fun c68 => ?_)
          · refine v_aload 4 K dX0_costAlone_75 rfl ?_
            refine v_get (c := (37 + p)) (k := 0) (C := RX4) (T := TX4) (N := 6) (v := .int (iZ (μ (37 + p) 0))) K (isO_Py (p := p) (by omega)) rfl (fun _ h => (List.mem_cons_of_mem _ (List.mem_append_left _ (List.mem_append_left _ (List.mem_append_right _ h))))) (by decide) (List.mem_cons_of_mem _ (List.mem_append_left _ (List.mem_append_left _ (List.mem_append_left _ (List.mem_append_left _ (List.mem_append_left _ (List.mem_of_getElem? (i := 4) rfl))))))) rfl dX0_costAlone_77 rfl ?_
            refine v_eq (lv1 := [(0, .ref (vAd X 1)), (1, .ref (vAd X (2 + y))), (2, .int (iZ (p : Int))), (3, .int (iZ w)), (4, .ref (vAd X (37 + p))), (5, .int (iZ (bits μ p (μ (5 + 2 * y) p)))), (6, .int (iZ (bits μ p w))), (7, .int (iZ (sm r (cstT μ y p w)))), (8, .int (iZ (r : Int)))]) (st1 := [.int (iZ (if tz (bits μ p (μ (5 + 2 * y) p)) r = 1 then 0 else μ (37 + p) 0)), .int (iZ (μ (6 + 2 * y) r))]) (v_c0 (v_c0 (v_c0 (v_c0 (v_c0 (v_c0 (v_c0 (v_c0 (v_c0 rfl))))))))) (v_sI (by first | rw [if_pos (by omega)] | rw [if_neg (by omega)]) (v_s0 rfl)) ?_
            exact L80 
          · refine v_iconst K dX0_costAlone_71 ?_
            refine v_goto 80 K dX0_costAlone_72 (by decide) ?_
            refine v_eq (lv1 := [(0, .ref (vAd X 1)), (1, .ref (vAd X (2 + y))), (2, .int (iZ (p : Int))), (3, .int (iZ w)), (4, .ref (vAd X (37 + p))), (5, .int (iZ (bits μ p (μ (5 + 2 * y) p)))), (6, .int (iZ (bits μ p w))), (7, .int (iZ (sm r (cstT μ y p w)))), (8, .int (iZ (r : Int)))]) (st1 := [.int (iZ (if tz (bits μ p (μ (5 + 2 * y) p)) r = 1 then 0 else μ (37 + p) 0)), .int (iZ (μ (6 + 2 * y) r))]) (v_c0 (v_c0 (v_c0 (v_c0 (v_c0 (v_c0 (v_c0 (v_c0 (v_c0 rfl))))))))) (v_sI (by first | rw [if_pos (by omega)] | rw [if_neg (by omega)]) (v_s0 rfl)) ?_
            exact L80 
  refine v_sub [5, 6, 7, 8, 4, 3, 2, 1, 0] rfl ?_
  refine v_eq (lv1 := [(0, .ref (vAd X 1)), (1, .ref (vAd X (2 + y))), (2, .int (iZ (p : Int))), (3, .int (iZ w)), (4, .ref (vAd X (37 + p))), (5, .int (iZ (bits μ p (μ (5 + 2 * y) p)))), (6, .int (iZ (bits μ p w))), (7, .int (iZ (sm 0 (cstT μ y p w)))), (8, .int (iZ ((0 : Nat) : Int)))]) (st1 := []) (v_c0 (v_c0 (v_c0 (v_c0 (v_c0 (v_c0 (v_c0 (v_cI (by first | rfl | omega) (v_cI (by first | rfl | omega) rfl))))))))) rfl ?_
  exact L35 (9 - 0 + 1) 0 (by omega) (by omega)
theorem c_X0_costAlone (l : Launch) (hl : l.stackTraces = false) (D : va_G) (cy : Nat → ClassId) (ad : Nat → Nat) (μ : Mem) (y : Nat) (p : Nat) (w : Int) (hy : y < 2) (hp : p < 6) (hW : WF μ) (hB : PB μ y) (hw : -1 ≤ w ∧ w ≤ 4) : cI l yX0_costAlone wsX0_costAlone ({ frames := 1, cells := 0, slots := 0, locals := 21 } : Room) D cy ad μ [.ref (ad 1), .ref (ad (2 + y)), .int (iZ (p : Int)), .int (iZ w)] (fun (z : Int) (ν : Mem) => z = cst μ y p w ∧ ν = μ) :=
  m_int (av := (fun ad => [.ref (ad 1), .ref (ad (2 + y)), .int (iZ (p : Int)), .int (iZ w)])) hl (by decide) rfl rfl (Nat.le_of_ble_eq_true rfl) (fun _ _ _ => rfl) (fun X K hret => b_X0_costAlone y p w hy hp hW hB hw K hret)
