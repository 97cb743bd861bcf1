theorem dX0_isEven_0 : decode cX0_isEven 0 = .ok (.iconst (-1), 1) := by decide +kernel
theorem dX0_isEven_1 : decode cX0_isEven 1 = .ok (.istore_n 2, 1) := by decide +kernel
theorem dX0_isEven_2 : decode cX0_isEven 2 = .ok (.iconst 0, 1) := by decide +kernel
theorem dX0_isEven_3 : decode cX0_isEven 3 = .ok (.istore_n 3, 1) := by decide +kernel
theorem dX0_isEven_4 : decode cX0_isEven 4 = .ok (.iload_n 3, 1) := by decide +kernel
theorem dX0_isEven_5 : decode cX0_isEven 5 = .ok (.aload_n 0, 1) := by decide +kernel
theorem dX0_isEven_6 : decode cX0_isEven 6 = .ok (.getfield 42, 3) := by decide +kernel
theorem dX0_isEven_9 : decode cX0_isEven 9 = .ok (.if_icmp .ge 60, 3) := by decide +kernel
theorem dX0_isEven_69 : decode cX0_isEven 69 = .ok (.iconst 1, 1) := by decide +kernel
theorem dX0_isEven_70 : decode cX0_isEven 70 = .ok (.ireturn, 1) := by decide +kernel
theorem dX0_isEven_12 : decode cX0_isEven 12 = .ok (.aload_n 1, 1) := by decide +kernel
theorem dX0_isEven_13 : decode cX0_isEven 13 = .ok (.getfield 62, 3) := by decide +kernel
theorem dX0_isEven_16 : decode cX0_isEven 16 = .ok (.iload_n 3, 1) := by decide +kernel
theorem dX0_isEven_17 : decode cX0_isEven 17 = .ok (.iaload, 1) := by decide +kernel
theorem dX0_isEven_18 : decode cX0_isEven 18 = .ok (.ifCond .lt 45, 3) := by decide +kernel
theorem dX0_isEven_63 : decode cX0_isEven 63 = .ok (.iinc 3 1, 3) := by decide +kernel
theorem dX0_isEven_66 : decode cX0_isEven 66 = .ok (.goto (-62), 3) := by decide +kernel
theorem dX0_isEven_21 : decode cX0_isEven 21 = .ok (.aload_n 0, 1) := by decide +kernel
theorem dX0_isEven_22 : decode cX0_isEven 22 = .ok (.getfield 20, 3) := by decide +kernel
theorem dX0_isEven_25 : decode cX0_isEven 25 = .ok (.iload_n 3, 1) := by decide +kernel
theorem dX0_isEven_26 : decode cX0_isEven 26 = .ok (.aaload, 1) := by decide +kernel
theorem dX0_isEven_27 : decode cX0_isEven 27 = .ok (.getfield 45, 3) := by decide +kernel
theorem dX0_isEven_30 : decode cX0_isEven 30 = .ok (.iconst 1, 1) := by decide +kernel
theorem dX0_isEven_31 : decode cX0_isEven 31 = .ok (.if_icmp .ne 20, 3) := by decide +kernel
theorem dX0_isEven_51 : decode cX0_isEven 51 = .ok (.iconst 0, 1) := by decide +kernel
theorem dX0_isEven_52 : decode cX0_isEven 52 = .ok (.ireturn, 1) := by decide +kernel
theorem dX0_isEven_34 : decode cX0_isEven 34 = .ok (.iload_n 2, 1) := by decide +kernel
theorem dX0_isEven_35 : decode cX0_isEven 35 = .ok (.ifCond .lt 18, 3) := by decide +kernel
theorem dX0_isEven_53 : decode cX0_isEven 53 = .ok (.aload_n 0, 1) := by decide +kernel
theorem dX0_isEven_54 : decode cX0_isEven 54 = .ok (.getfield 20, 3) := by decide +kernel
theorem dX0_isEven_57 : decode cX0_isEven 57 = .ok (.iload_n 3, 1) := by decide +kernel
theorem dX0_isEven_58 : decode cX0_isEven 58 = .ok (.aaload, 1) := by decide +kernel
theorem dX0_isEven_59 : decode cX0_isEven 59 = .ok (.getfield 48, 3) := by decide +kernel
theorem dX0_isEven_62 : decode cX0_isEven 62 = .ok (.istore_n 2, 1) := by decide +kernel
theorem dX0_isEven_38 : decode cX0_isEven 38 = .ok (.iload_n 2, 1) := by decide +kernel
theorem dX0_isEven_39 : decode cX0_isEven 39 = .ok (.aload_n 0, 1) := by decide +kernel
theorem dX0_isEven_40 : decode cX0_isEven 40 = .ok (.getfield 20, 3) := by decide +kernel
theorem dX0_isEven_43 : decode cX0_isEven 43 = .ok (.iload_n 3, 1) := by decide +kernel
theorem dX0_isEven_44 : decode cX0_isEven 44 = .ok (.aaload, 1) := by decide +kernel
theorem dX0_isEven_45 : decode cX0_isEven 45 = .ok (.getfield 48, 3) := by decide +kernel
theorem dX0_isEven_48 : decode cX0_isEven 48 = .ok (.if_icmp .eq 5, 3) := by decide +kernel
set_option maxHeartbeats 4000000 in
set_option maxRecDepth 100000 in
theorem b_X0_isEven {X : VC} {μ : Mem} (y : Nat) (hy : y < 2) (hW : WF μ) (hB : PB μ y) (K : vK X cX0_isEven 4 RX0 wsX0_isEven ({ frames := 0, cells := 0, slots := 0, locals := 0 } : Room)) (hret : ∀ (z : Int) (ν : Mem), (fun (z : Int) (ν : Mem) => ν = μ ∧ (z = 0 ∨ (z = 1 ∧ ∃ m : Int, ∀ q, q < pcn μ → 0 ≤ μ (5 + 2 * y) q → μ (37 + q) 0 = 1 ∧ μ (37 + q) 1 = m))) z ν → ∀ n pc k1 k2 lv, k1 ≤ 0 → k2 ≤ 0 → decode cX0_isEven pc = .ok (.ireturn, 1) → vW X n pc k1 k2 lv [.int (iZ z)] ν) : vW X 4 0 0 0 [(0, .ref (vAd X 1)), (1, .ref (vAd X (2 + y)))] [] μ := by
  have hpc := hW.pc6
  refine v_iconst K dX0_isEven_0 ?_
  refine v_istore_n [(2, .int (iZ (-1))), (0, .ref (vAd X 1)), (1, .ref (vAd X (2 + y)))] K dX0_isEven_1 (by decide) rfl ?_
  refine v_iconst K dX0_isEven_2 ?_
  refine v_istore_n [(3, .int (iZ 0)), (2, .int (iZ (-1))), (0, .ref (vAd X 1)), (1, .ref (vAd X (2 + y)))] K dX0_isEven_3 (by decide) rfl ?_
  have L4 : ∀ (fuel : Nat) (p : Nat) (m : Int) (hm : 7 - p < fuel) (hp : p ≤ pcn μ) (hm : -1 ≤ m ∧ m ≤ 9) (hE : ∀ q, q < p → 0 ≤ μ (5 + 2 * y) q → μ (37 + q) 0 = 1 ∧ μ (37 + q) 1 = m), vW X 4 4 0 0 [(0, .ref (vAd X 1)), (1, .ref (vAd X (2 + y))), (2, .int (iZ m)), (3, .int (iZ (p : Int)))] [] μ := by
    intro fuel
    induction fuel with
    | zero => intro p m hm; exact absurd hm (Nat.not_lt_zero _)
    | succ fuel ih4 =>
      intro p m hm hp hm hE
      refine v_iload_n 3 K dX0_isEven_4 rfl ?_
      refine v_aload_n 0 K dX0_isEven_5 rfl ?_
      refine v_get (c := 1) (k := 3) (C := RX0) (T := TX0) (N := 4) (v := .int (iZ (μ 1 3))) K isO_Bd rfl (fun _ h => (List.mem_cons_of_mem _ (List.mem_append_left _ (List.mem_append_left _ (List.mem_append_left _ (List.mem_append_right _ h)))))) (by decide) (List.mem_cons_of_mem _ (List.mem_append_left _ (List.mem_append_left _ (List.mem_append_left _ (List.mem_append_left _ (List.mem_of_getElem? (i := 0) rfl)))))) rfl dX0_isEven_6 rfl ?_
      refine v_icmp_ge 69 K dX0_isEven_9 (by decide) (by omega) (by omega) (fun c9 => ?_) (fun c9 => ?_)
      · refine v_iconst K dX0_isEven_69 ?_
        exact hret _ _ ⟨rfl, Or.inr ⟨rfl, m, fun q hq h0 => hE q (by omega) h0⟩⟩ _ _ _ _ _ (Nat.le_of_ble_eq_true rfl) (Nat.le_of_ble_eq_true rfl) dX0_isEven_70
      · have hpl := hW.pl (p := p) (by omega)
        have hch := hB.1 p (by omega)
        refine v_aload_n 1 K dX0_isEven_12 rfl ?_
        refine v_get (c := (2 + y)) (k := 0) (C := RX3) (T := TX3) (N := 3) (v := .ref (vAd X (5 + 2 * y))) K (isO_Pl (y := y) (by omega)) rfl (fun _ h => (List.mem_cons_of_mem _ (List.mem_append_left _ (List.mem_append_left _ (List.mem_append_right _ h))))) (by decide) (List.mem_cons_of_mem _ (List.mem_append_left _ (List.mem_append_left _ (List.mem_append_left _ (List.mem_append_left _ (List.mem_of_getElem? (i := 1) rfl)))))) rfl dX0_isEven_13 rfl ?_
        refine v_iload_n 3 K dX0_isEven_16 rfl ?_
        refine v_iald (c := (5 + 2 * y)) p K (isI_ch (y := y) (by omega)) rfl (by omega) dX0_isEven_17 ?_
        refine v_if_lt 63 K dX0_isEven_18 (by decide) (by omega) (fun c18 => ?_) (fun c18 => ?_)
        · refine v_iinc 3 [(3, .int (iZ ((p : Int) + 1))), (0, .ref (vAd X 1)), (1, .ref (vAd X (2 + y))), (2, .int (iZ m))] K dX0_isEven_63 rfl (by decide) rfl ?_
          refine v_goto 4 K dX0_isEven_66 (by decide) ?_
          refine v_sub [1, 2, 3, 0] rfl ?_
          refine v_eq (lv1 := [(0, .ref (vAd X 1)), (1, .ref (vAd X (2 + y))), (2, .int (iZ m)), (3, .int (iZ (((p + 1) : Nat) : Int)))]) (st1 := []) (v_c0 (v_c0 (v_c0 (v_cI (by first | rfl | omega) rfl)))) rfl ?_
          exact ih4 (p + 1) m (by omega) (by omega) (by omega) (fun q hq h0 => by have hq1 := hW.pl (p := q) (by omega); rcases (show q < p ∨ q = p by omega) with e | e; have := hE q e h0; omega; subst e; omega)
        · refine v_aload_n 0 K dX0_isEven_21 rfl ?_
          refine v_get (c := 1) (k := 1) (C := RX0) (T := TX0) (N := 4) (v := .ref (vAd X 20)) K isO_Bd rfl (fun _ h => (List.mem_cons_of_mem _ (List.mem_append_left _ (List.mem_append_left _ (List.mem_append_left _ (List.mem_append_right _ h)))))) (by decide) (List.mem_cons_of_mem _ (List.mem_append_left _ (List.mem_append_left _ (List.mem_append_left _ (List.mem_append_left _ (List.mem_of_getElem? (i := 2) rfl)))))) rfl dX0_isEven_22 rfl ?_
          refine v_iload_n 3 K dX0_isEven_25 rfl ?_
          refine v_aald (c := 20) p K isQ_Py rfl rfl (by omega) dX0_isEven_26 ?_
          refine v_get (c := (37 + p)) (k := 0) (C := RX4) (T := TX4) (N := 6) (v := .int (iZ (μ (37 + p) 0))) K (isO_Py (p := p) (by omega)) rfl (fun _ h => (List.mem_cons_of_mem _ (List.mem_append_left _ (List.mem_append_right _ h)))) (by decide) (List.mem_cons_of_mem _ (List.mem_append_left _ (List.mem_append_left _ (List.mem_append_left _ (List.mem_append_left _ (List.mem_of_getElem? (i := 3) rfl)))))) rfl dX0_isEven_27 rfl ?_
          refine v_iconst K dX0_isEven_30 ?_
          refine v_icmp_ne 51 K dX0_isEven_31 (by decide) (by omega) (by decide) (fun c31 => ?_) (fun c31 => ?_)
          · refine v_iconst K dX0_isEven_51 ?_
            exact hret _ _ ⟨rfl, Or.inl rfl⟩ _ _ _ _ _ (Nat.le_of_ble_eq_true rfl) (Nat.le_of_ble_eq_true rfl) dX0_isEven_52
          · refine v_iload_n 2 K dX0_isEven_34 rfl ?_
            refine v_if_lt 53 K dX0_isEven_35 (by decide) (by omega) (fun c35 => ?_) (fun c35 => ?_)
            · refine v_aload_n 0 K dX0_isEven_53 rfl ?_
              refine v_get (c := 1) (k := 1) (C := RX0) (T := TX0) (N := 4) (v := .ref (vAd X 20)) K isO_Bd rfl (fun _ h => (List.mem_cons_of_mem _ (List.mem_append_left _ (List.mem_append_left _ (List.mem_append_left _ (List.mem_append_right _ h)))))) (by decide) (List.mem_cons_of_mem _ (List.mem_append_left _ (List.mem_append_left _ (List.mem_append_left _ (List.mem_append_left _ (List.mem_of_getElem? (i := 2) rfl)))))) rfl dX0_isEven_54 rfl ?_
              refine v_iload_n 3 K dX0_isEven_57 rfl ?_
              refine v_aald (c := 20) p K isQ_Py rfl rfl (by omega) dX0_isEven_58 ?_
              refine v_get (c := (37 + p)) (k := 1) (C := RX4) (T := TX4) (N := 6) (v := .int (iZ (μ (37 + p) 1))) K (isO_Py (p := p) (by omega)) rfl (fun _ h => (List.mem_cons_of_mem _ (List.mem_append_left _ (List.mem_append_right _ h)))) (by decide) (List.mem_cons_of_mem _ (List.mem_append_left _ (List.mem_append_left _ (List.mem_append_left _ (List.mem_append_left _ (List.mem_of_getElem? (i := 4) rfl)))))) rfl dX0_isEven_59 rfl ?_
              refine v_istore_n [(2, .int (iZ (μ (37 + p) 1))), (0, .ref (vAd X 1)), (1, .ref (vAd X (2 + y))), (3, .int (iZ (p : Int)))] K dX0_isEven_62 (by decide) rfl ?_
              refine v_iinc 3 [(3, .int (iZ ((p : Int) + 1))), (2, .int (iZ (μ (37 + p) 1))), (0, .ref (vAd X 1)), (1, .ref (vAd X (2 + y)))] K dX0_isEven_63 rfl (by decide) rfl ?_
              refine v_goto 4 K dX0_isEven_66 (by decide) ?_
              refine v_sub [2, 3, 1, 0] rfl ?_
              refine v_eq (lv1 := [(0, .ref (vAd X 1)), (1, .ref (vAd X (2 + y))), (2, .int (iZ (μ (37 + p) 1))), (3, .int (iZ (((p + 1) : Nat) : Int)))]) (st1 := []) (v_c0 (v_c0 (v_c0 (v_cI (by first | rfl | omega) rfl)))) rfl ?_
              exact ih4 (p + 1) (μ (37 + p) 1) (by omega) (by omega) (by omega) (fun q hq h0 => by have hq1 := hW.pl (p := q) (by omega); rcases (show q < p ∨ q = p by omega) with e | e; have := hE q e h0; omega; subst e; omega)
            · refine v_iload_n 2 K dX0_isEven_38 rfl ?_
              refine v_aload_n 0 K dX0_isEven_39 rfl ?_
              refine v_get (c := 1) (k := 1) (C := RX0) (T := TX0) (N := 4) (v := .ref (vAd X 20)) K isO_Bd rfl (fun _ h => (List.mem_cons_of_mem _ (List.mem_append_left _ (List.mem_append_left _ (List.mem_append_left _ (List.mem_append_right _ h)))))) (by decide) (List.mem_cons_of_mem _ (List.mem_append_left _ (List.mem_append_left _ (List.mem_append_left _ (List.mem_append_left _ (List.mem_of_getElem? (i := 2) rfl)))))) rfl dX0_isEven_40 rfl ?_
              refine v_iload_n 3 K dX0_isEven_43 rfl ?_
              refine v_aald (c := 20) p K isQ_Py rfl rfl (by omega) dX0_isEven_44 ?_
              refine v_get (c := (37 + p)) (k := 1) (C := RX4) (T := TX4) (N := 6) (v := .int (iZ (μ (37 + p) 1))) K (isO_Py (p := p) (by omega)) rfl (fun _ h => (List.mem_cons_of_mem _ (List.mem_append_left _ (List.mem_append_right _ h)))) (by decide) (List.mem_cons_of_mem _ (List.mem_append_left _ (List.mem_append_left _ (List.mem_append_left _ (List.mem_append_left _ (List.mem_of_getElem? (i := 4) rfl)))))) rfl dX0_isEven_45 rfl ?_
              refine v_icmp_eq 53 K dX0_isEven_48 (by decide) (by omega) (by omega) (fun c48 => ?_) (fun c48 => ?_)
              · refine v_aload_n 0 K dX0_isEven_53 rfl ?_
                refine v_get (c := 1) (k := 1) (C := RX0) (T := TX0) (N := 4) (v := .ref (vAd X 20)) K isO_Bd rfl (fun _ h => (List.mem_cons_of_mem _ (List.mem_append_left _ (List.mem_append_left _ (List.mem_append_left _ (List.mem_append_right _ h)))))) (by decide) (List.mem_cons_of_mem _ (List.mem_append_left _ (List.mem_append_left _ (List.mem_append_left _ (List.mem_append_left _ (List.mem_of_getElem? (i := 2) rfl)))))) rfl dX0_isEven_54 rfl ?_
                refine v_iload_n 3 K dX0_isEven_57 rfl ?_
                refine v_aald (c := 20) p K isQ_Py rfl rfl (by omega) dX0_isEven_58 ?_
                refine v_get (c := (37 + p)) (k := 1) (C := RX4) (T := TX4) (N := 6) (v := .int (iZ (μ (37 + p) 1))) K (isO_Py (p := p) (by omega)) rfl (fun _ h => (List.mem_cons_of_mem _ (List.mem_append_left _ (List.mem_append_right _ h)))) (by decide) (List.mem_cons_of_mem _ (List.mem_append_left _ (List.mem_append_left _ (List.mem_append_left _ (List.mem_append_left _ (List.mem_of_getElem? (i := 4) rfl)))))) rfl dX0_isEven_59 rfl ?_
                refine v_istore_n [(2, .int (iZ (μ (37 + p) 1))), (0, .ref (vAd X 1)), (1, .ref (vAd X (2 + y))), (3, .int (iZ (p : Int)))] K dX0_isEven_62 (by decide) rfl ?_
                refine v_iinc 3 [(3, .int (iZ ((p : Int) + 1))), (2, .int (iZ (μ (37 + p) 1))), (0, .ref (vAd X 1)), (1, .ref (vAd X (2 + y)))] K dX0_isEven_63 rfl (by decide) rfl ?_
                refine v_goto 4 K dX0_isEven_66 (by decide) ?_
                refine v_sub [2, 3, 1, 0] rfl ?_
                refine v_eq (lv1 := [(0, .ref (vAd X 1)), (1, .ref (vAd X (2 + y))), (2, .int (iZ (μ (37 + p) 1))), (3, .int (iZ (((p + 1) : Nat) : Int)))]) (st1 := []) (v_c0 (v_c0 (v_c0 (v_cI (by first | rfl | omega) rfl)))) rfl ?_
                exact ih4 (p + 1) (μ (37 + p) 1) (by omega) (by omega) (by omega) (fun q hq h0 => by have hq1 := hW.pl (p := q) (by omega); rcases (show q < p ∨ q = p by omega) with e | e; have := hE q e h0; omega; subst e; omega)
              · refine v_iconst K dX0_isEven_51 ?_
                exact hret _ _ ⟨rfl, Or.inl rfl⟩ _ _ _ _ _ (Nat.le_of_ble_eq_true rfl) (Nat.le_of_ble_eq_true rfl) dX0_isEven_52
  refine v_sub [2, 3, 1, 0] rfl ?_
  refine v_eq (lv1 := [(0, .ref (vAd X 1)), (1, .ref (vAd X (2 + y))), (2, .int (iZ (-1))), (3, .int (iZ ((0 : Nat) : Int)))]) (st1 := []) (v_c0 (v_c0 (v_c0 (v_cI (by first | rfl | omega) rfl)))) rfl ?_
  exact L4 (7 - 0 + 1) 0 (-1) (by omega) (by omega) (by omega) (fun q hq => by omega)
theorem c_X0_isEven (l : Launch) (hl : l.stackTraces = false) (D : va_G) (cy : Nat → ClassId) (ad : Nat → Nat) (μ : Mem) (y : Nat) (hy : y < 2) (hW : WF μ) (hB : PB μ y) : cI l yX0_isEven wsX0_isEven ({ frames := 0, cells := 0, slots := 0, locals := 0 } : Room) D cy ad μ [.ref (ad 1), .ref (ad (2 + y))] (fun (z : Int) (ν : Mem) => ν = μ ∧ (z = 0 ∨ (z = 1 ∧ ∃ m : Int, ∀ q, q < pcn μ → 0 ≤ μ (5 + 2 * y) q → μ (37 + q) 0 = 1 ∧ μ (37 + q) 1 = m))) :=
  m_int (av := (fun ad => [.ref (ad 1), .ref (ad (2 + y))])) hl (by decide) rfl rfl (Nat.le_of_ble_eq_true rfl) (fun z ν q => (nar_z (by have := q.2; omega)).1) (fun X K hret => b_X0_isEven y hy hW hB K hret)
theorem dJ6_bitCount_0f7a4_0 : decode cJ6_bitCount_0f7a4 0 = .ok (.iload_n 0, 1) := by decide +kernel
theorem dJ6_bitCount_0f7a4_1 : decode cJ6_bitCount_0f7a4 1 = .ok (.iload_n 0, 1) := by decide +kernel
theorem dJ6_bitCount_0f7a4_2 : decode cJ6_bitCount_0f7a4 2 = .ok (.iconst 1, 1) := by decide +kernel
theorem dJ6_bitCount_0f7a4_3 : decode cJ6_bitCount_0f7a4 3 = .ok (.iushr, 1) := by decide +kernel
theorem dJ6_bitCount_0f7a4_4 : decode cJ6_bitCount_0f7a4 4 = .ok (.ldc_w 265, 3) := by decide +kernel
theorem dJ6_bitCount_0f7a4_7 : decode cJ6_bitCount_0f7a4 7 = .ok (.iand, 1) := by decide +kernel
theorem dJ6_bitCount_0f7a4_8 : decode cJ6_bitCount_0f7a4 8 = .ok (.isub, 1) := by decide +kernel
theorem dJ6_bitCount_0f7a4_9 : decode cJ6_bitCount_0f7a4 9 = .ok (.istore_n 0, 1) := by decide +kernel
theorem dJ6_bitCount_0f7a4_10 : decode cJ6_bitCount_0f7a4 10 = .ok (.iload_n 0, 1) := by decide +kernel
theorem dJ6_bitCount_0f7a4_11 : decode cJ6_bitCount_0f7a4 11 = .ok (.ldc_w 266, 3) := by decide +kernel
theorem dJ6_bitCount_0f7a4_14 : decode cJ6_bitCount_0f7a4 14 = .ok (.iand, 1) := by decide +kernel
theorem dJ6_bitCount_0f7a4_15 : decode cJ6_bitCount_0f7a4 15 = .ok (.iload_n 0, 1) := by decide +kernel
theorem dJ6_bitCount_0f7a4_16 : decode cJ6_bitCount_0f7a4 16 = .ok (.iconst 2, 1) := by decide +kernel
theorem dJ6_bitCount_0f7a4_17 : decode cJ6_bitCount_0f7a4 17 = .ok (.iushr, 1) := by decide +kernel
theorem dJ6_bitCount_0f7a4_18 : decode cJ6_bitCount_0f7a4 18 = .ok (.ldc_w 266, 3) := by decide +kernel
theorem dJ6_bitCount_0f7a4_21 : decode cJ6_bitCount_0f7a4 21 = .ok (.iand, 1) := by decide +kernel
theorem dJ6_bitCount_0f7a4_22 : decode cJ6_bitCount_0f7a4 22 = .ok (.iadd, 1) := by decide +kernel
theorem dJ6_bitCount_0f7a4_23 : decode cJ6_bitCount_0f7a4 23 = .ok (.istore_n 0, 1) := by decide +kernel
theorem dJ6_bitCount_0f7a4_24 : decode cJ6_bitCount_0f7a4 24 = .ok (.iload_n 0, 1) := by decide +kernel
theorem dJ6_bitCount_0f7a4_25 : decode cJ6_bitCount_0f7a4 25 = .ok (.iload_n 0, 1) := by decide +kernel
theorem dJ6_bitCount_0f7a4_26 : decode cJ6_bitCount_0f7a4 26 = .ok (.iconst 4, 1) := by decide +kernel
theorem dJ6_bitCount_0f7a4_27 : decode cJ6_bitCount_0f7a4 27 = .ok (.iushr, 1) := by decide +kernel
theorem dJ6_bitCount_0f7a4_28 : decode cJ6_bitCount_0f7a4 28 = .ok (.iadd, 1) := by decide +kernel
theorem dJ6_bitCount_0f7a4_29 : decode cJ6_bitCount_0f7a4 29 = .ok (.ldc_w 267, 3) := by decide +kernel
theorem dJ6_bitCount_0f7a4_32 : decode cJ6_bitCount_0f7a4 32 = .ok (.iand, 1) := by decide +kernel
theorem dJ6_bitCount_0f7a4_33 : decode cJ6_bitCount_0f7a4 33 = .ok (.istore_n 0, 1) := by decide +kernel
theorem dJ6_bitCount_0f7a4_34 : decode cJ6_bitCount_0f7a4 34 = .ok (.iload_n 0, 1) := by decide +kernel
theorem dJ6_bitCount_0f7a4_35 : decode cJ6_bitCount_0f7a4 35 = .ok (.iload_n 0, 1) := by decide +kernel
theorem dJ6_bitCount_0f7a4_36 : decode cJ6_bitCount_0f7a4 36 = .ok (.bipush 8, 2) := by decide +kernel
theorem dJ6_bitCount_0f7a4_38 : decode cJ6_bitCount_0f7a4 38 = .ok (.iushr, 1) := by decide +kernel
theorem dJ6_bitCount_0f7a4_39 : decode cJ6_bitCount_0f7a4 39 = .ok (.iadd, 1) := by decide +kernel
theorem dJ6_bitCount_0f7a4_40 : decode cJ6_bitCount_0f7a4 40 = .ok (.istore_n 0, 1) := by decide +kernel
theorem dJ6_bitCount_0f7a4_41 : decode cJ6_bitCount_0f7a4 41 = .ok (.iload_n 0, 1) := by decide +kernel
theorem dJ6_bitCount_0f7a4_42 : decode cJ6_bitCount_0f7a4 42 = .ok (.iload_n 0, 1) := by decide +kernel
theorem dJ6_bitCount_0f7a4_43 : decode cJ6_bitCount_0f7a4 43 = .ok (.bipush 16, 2) := by decide +kernel
theorem dJ6_bitCount_0f7a4_45 : decode cJ6_bitCount_0f7a4 45 = .ok (.iushr, 1) := by decide +kernel
theorem dJ6_bitCount_0f7a4_46 : decode cJ6_bitCount_0f7a4 46 = .ok (.iadd, 1) := by decide +kernel
theorem dJ6_bitCount_0f7a4_47 : decode cJ6_bitCount_0f7a4 47 = .ok (.istore_n 0, 1) := by decide +kernel
theorem dJ6_bitCount_0f7a4_48 : decode cJ6_bitCount_0f7a4 48 = .ok (.iload_n 0, 1) := by decide +kernel
theorem dJ6_bitCount_0f7a4_49 : decode cJ6_bitCount_0f7a4 49 = .ok (.bipush 63, 2) := by decide +kernel
theorem dJ6_bitCount_0f7a4_51 : decode cJ6_bitCount_0f7a4 51 = .ok (.iand, 1) := by decide +kernel
theorem dJ6_bitCount_0f7a4_52 : decode cJ6_bitCount_0f7a4 52 = .ok (.ireturn, 1) := by decide +kernel
set_option maxHeartbeats 4000000 in
set_option maxRecDepth 100000 in
theorem b_J6_bitCount_0f7a4 {X : VC} {μ : Mem} (b : Int) (hb : 0 ≤ b ∧ b ≤ 255) (K : vK X cJ6_bitCount_0f7a4 1 RJ6 wsJ6_bitCount_0f7a4 ({ frames := 0, cells := 0, slots := 0, locals := 0 } : Room)) (hret : ∀ (z : Int) (ν : Mem), (fun (z : Int) (ν : Mem) => z = pop8 b ∧ ν = μ) z ν → ∀ n pc k1 k2 lv, k1 ≤ 0 → k2 ≤ 0 → decode cJ6_bitCount_0f7a4 pc = .ok (.ireturn, 1) → vW X n pc k1 k2 lv [.int (iZ z)] ν) : vW X 1 0 0 0 [(0, .int (iZ b))] [] μ := by
  refine v_iload_n 0 K dJ6_bitCount_0f7a4_0 rfl ?_
  refine v_iload_n 0 K dJ6_bitCount_0f7a4_1 rfl ?_
  refine v_iconst K dJ6_bitCount_0f7a4_2 ?_
  refine v_riushr K dJ6_bitCount_0f7a4_3 ?_
  refine v_ldcw (v := 1431655765) (n := 1431655765) K (List.mem_cons_of_mem _ (List.mem_of_getElem? (i := 0) rfl)) dJ6_bitCount_0f7a4_4 (by decide) ?_
  refine v_riand K dJ6_bitCount_0f7a4_7 ?_
  refine v_risub K dJ6_bitCount_0f7a4_8 ?_
  refine v_istore_n [(0, .int ((iZ b) - ((us (iZ b) (iZ 1)) &&& (iZ 1431655765))))] K dJ6_bitCount_0f7a4_9 (by decide) rfl ?_
  refine v_iload_n 0 K dJ6_bitCount_0f7a4_10 rfl ?_
  refine v_ldcw (v := 858993459) (n := 858993459) K (List.mem_cons_of_mem _ (List.mem_of_getElem? (i := 1) rfl)) dJ6_bitCount_0f7a4_11 (by decide) ?_
  refine v_riand K dJ6_bitCount_0f7a4_14 ?_
  refine v_iload_n 0 K dJ6_bitCount_0f7a4_15 rfl ?_
  refine v_iconst K dJ6_bitCount_0f7a4_16 ?_
  refine v_riushr K dJ6_bitCount_0f7a4_17 ?_
  refine v_ldcw (v := 858993459) (n := 858993459) K (List.mem_cons_of_mem _ (List.mem_of_getElem? (i := 1) rfl)) dJ6_bitCount_0f7a4_18 (by decide) ?_
  refine v_riand K dJ6_bitCount_0f7a4_21 ?_
  refine v_riadd K dJ6_bitCount_0f7a4_22 ?_
  refine v_istore_n [(0, .int ((((iZ b) - ((us (iZ b) (iZ 1)) &&& (iZ 1431655765))) &&& (iZ 858993459)) + ((us ((iZ b) - ((us (iZ b) (iZ 1)) &&& (iZ 1431655765))) (iZ 2)) &&& (iZ 858993459))))] K dJ6_bitCount_0f7a4_23 (by decide) rfl ?_
  refine v_iload_n 0 K dJ6_bitCount_0f7a4_24 rfl ?_
  refine v_iload_n 0 K dJ6_bitCount_0f7a4_25 rfl ?_
  refine v_iconst K dJ6_bitCount_0f7a4_26 ?_
  refine v_riushr K dJ6_bitCount_0f7a4_27 ?_
  refine v_riadd K dJ6_bitCount_0f7a4_28 ?_
  refine v_ldcw (v := 252645135) (n := 252645135) K (List.mem_cons_of_mem _ (List.mem_of_getElem? (i := 2) rfl)) dJ6_bitCount_0f7a4_29 (by decide) ?_
  refine v_riand K dJ6_bitCount_0f7a4_32 ?_
  refine v_istore_n [(0, .int ((((((iZ b) - ((us (iZ b) (iZ 1)) &&& (iZ 1431655765))) &&& (iZ 858993459)) + ((us ((iZ b) - ((us (iZ b) (iZ 1)) &&& (iZ 1431655765))) (iZ 2)) &&& (iZ 858993459))) + (us ((((iZ b) - ((us (iZ b) (iZ 1)) &&& (iZ 1431655765))) &&& (iZ 858993459)) + ((us ((iZ b) - ((us (iZ b) (iZ 1)) &&& (iZ 1431655765))) (iZ 2)) &&& (iZ 858993459))) (iZ 4))) &&& (iZ 252645135)))] K dJ6_bitCount_0f7a4_33 (by decide) rfl ?_
  refine v_iload_n 0 K dJ6_bitCount_0f7a4_34 rfl ?_
  refine v_iload_n 0 K dJ6_bitCount_0f7a4_35 rfl ?_
  refine v_bipush K dJ6_bitCount_0f7a4_36 (by decide) ?_
  refine v_riushr K dJ6_bitCount_0f7a4_38 ?_
  refine v_riadd K dJ6_bitCount_0f7a4_39 ?_
  refine v_istore_n [(0, .int (((((((iZ b) - ((us (iZ b) (iZ 1)) &&& (iZ 1431655765))) &&& (iZ 858993459)) + ((us ((iZ b) - ((us (iZ b) (iZ 1)) &&& (iZ 1431655765))) (iZ 2)) &&& (iZ 858993459))) + (us ((((iZ b) - ((us (iZ b) (iZ 1)) &&& (iZ 1431655765))) &&& (iZ 858993459)) + ((us ((iZ b) - ((us (iZ b) (iZ 1)) &&& (iZ 1431655765))) (iZ 2)) &&& (iZ 858993459))) (iZ 4))) &&& (iZ 252645135)) + (us ((((((iZ b) - ((us (iZ b) (iZ 1)) &&& (iZ 1431655765))) &&& (iZ 858993459)) + ((us ((iZ b) - ((us (iZ b) (iZ 1)) &&& (iZ 1431655765))) (iZ 2)) &&& (iZ 858993459))) + (us ((((iZ b) - ((us (iZ b) (iZ 1)) &&& (iZ 1431655765))) &&& (iZ 858993459)) + ((us ((iZ b) - ((us (iZ b) (iZ 1)) &&& (iZ 1431655765))) (iZ 2)) &&& (iZ 858993459))) (iZ 4))) &&& (iZ 252645135)) (iZ 8))))] K dJ6_bitCount_0f7a4_40 (by decide) rfl ?_
  refine v_iload_n 0 K dJ6_bitCount_0f7a4_41 rfl ?_
  refine v_iload_n 0 K dJ6_bitCount_0f7a4_42 rfl ?_
  refine v_bipush K dJ6_bitCount_0f7a4_43 (by decide) ?_
  refine v_riushr K dJ6_bitCount_0f7a4_45 ?_
  refine v_riadd K dJ6_bitCount_0f7a4_46 ?_
  refine v_istore_n [(0, .int ((((((((iZ b) - ((us (iZ b) (iZ 1)) &&& (iZ 1431655765))) &&& (iZ 858993459)) + ((us ((iZ b) - ((us (iZ b) (iZ 1)) &&& (iZ 1431655765))) (iZ 2)) &&& (iZ 858993459))) + (us ((((iZ b) - ((us (iZ b) (iZ 1)) &&& (iZ 1431655765))) &&& (iZ 858993459)) + ((us ((iZ b) - ((us (iZ b) (iZ 1)) &&& (iZ 1431655765))) (iZ 2)) &&& (iZ 858993459))) (iZ 4))) &&& (iZ 252645135)) + (us ((((((iZ b) - ((us (iZ b) (iZ 1)) &&& (iZ 1431655765))) &&& (iZ 858993459)) + ((us ((iZ b) - ((us (iZ b) (iZ 1)) &&& (iZ 1431655765))) (iZ 2)) &&& (iZ 858993459))) + (us ((((iZ b) - ((us (iZ b) (iZ 1)) &&& (iZ 1431655765))) &&& (iZ 858993459)) + ((us ((iZ b) - ((us (iZ b) (iZ 1)) &&& (iZ 1431655765))) (iZ 2)) &&& (iZ 858993459))) (iZ 4))) &&& (iZ 252645135)) (iZ 8))) + (us (((((((iZ b) - ((us (iZ b) (iZ 1)) &&& (iZ 1431655765))) &&& (iZ 858993459)) + ((us ((iZ b) - ((us (iZ b) (iZ 1)) &&& (iZ 1431655765))) (iZ 2)) &&& (iZ 858993459))) + (us ((((iZ b) - ((us (iZ b) (iZ 1)) &&& (iZ 1431655765))) &&& (iZ 858993459)) + ((us ((iZ b) - ((us (iZ b) (iZ 1)) &&& (iZ 1431655765))) (iZ 2)) &&& (iZ 858993459))) (iZ 4))) &&& (iZ 252645135)) + (us ((((((iZ b) - ((us (iZ b) (iZ 1)) &&& (iZ 1431655765))) &&& (iZ 858993459)) + ((us ((iZ b) - ((us (iZ b) (iZ 1)) &&& (iZ 1431655765))) (iZ 2)) &&& (iZ 858993459))) + (us ((((iZ b) - ((us (iZ b) (iZ 1)) &&& (iZ 1431655765))) &&& (iZ 858993459)) + ((us ((iZ b) - ((us (iZ b) (iZ 1)) &&& (iZ 1431655765))) (iZ 2)) &&& (iZ 858993459))) (iZ 4))) &&& (iZ 252645135)) (iZ 8))) (iZ 16))))] K dJ6_bitCount_0f7a4_47 (by decide) rfl ?_
  refine v_iload_n 0 K dJ6_bitCount_0f7a4_48 rfl ?_
  refine v_bipush K dJ6_bitCount_0f7a4_49 (by decide) ?_
  refine v_riand K dJ6_bitCount_0f7a4_51 ?_
  refine v_top (b := pop8 b) (bc_ok hb) ?_
  exact hret _ _ ⟨rfl, rfl⟩ _ _ _ _ _ (Nat.le_of_ble_eq_true rfl) (Nat.le_of_ble_eq_true rfl) dJ6_bitCount_0f7a4_52
theorem c_J6_bitCount_0f7a4 (l : Launch) (hl : l.stackTraces = false) (D : va_G) (cy : Nat → ClassId) (ad : Nat → Nat) (μ : Mem) (b : Int) (hb : 0 ≤ b ∧ b ≤ 255) : cI l yJ6_bitCount_0f7a4 wsJ6_bitCount_0f7a4 ({ frames := 0, cells := 0, slots := 0, locals := 0 } : Room) D cy ad μ [.int (iZ b)] (fun (z : Int) (ν : Mem) => z = pop8 b ∧ ν = μ) :=
  m_int (av := (fun ad => [.int (iZ b)])) hl (by decide) rfl rfl (Nat.le_of_ble_eq_true rfl) (fun _ _ _ => rfl) (fun X K hret => b_J6_bitCount_0f7a4 b hb K hret)
theorem dX0_isBalanced_0 : decode cX0_isBalanced 0 = .ok (.iconst 0, 1) := by decide +kernel
theorem dX0_isBalanced_1 : decode cX0_isBalanced 1 = .ok (.istore_n 2, 1) := by decide +kernel
theorem dX0_isBalanced_2 : decode cX0_isBalanced 2 = .ok (.iconst 0, 1) := by decide +kernel
theorem dX0_isBalanced_3 : decode cX0_isBalanced 3 = .ok (.istore_n 3, 1) := by decide +kernel
theorem dX0_isBalanced_4 : decode cX0_isBalanced 4 = .ok (.iload_n 3, 1) := by decide +kernel
theorem dX0_isBalanced_5 : decode cX0_isBalanced 5 = .ok (.aload_n 0, 1) := by decide +kernel
theorem dX0_isBalanced_6 : decode cX0_isBalanced 6 = .ok (.getfield 25, 3) := by decide +kernel
theorem dX0_isBalanced_9 : decode cX0_isBalanced 9 = .ok (.if_icmp .ge 18, 3) := by decide +kernel
theorem dX0_isBalanced_27 : decode cX0_isBalanced 27 = .ok (.iconst 0, 1) := by decide +kernel
theorem dX0_isBalanced_28 : decode cX0_isBalanced 28 = .ok (.istore_n 3, 1) := by decide +kernel
theorem dX0_isBalanced_29 : decode cX0_isBalanced 29 = .ok (.iload_n 3, 1) := by decide +kernel
theorem dX0_isBalanced_30 : decode cX0_isBalanced 30 = .ok (.aload_n 0, 1) := by decide +kernel
theorem dX0_isBalanced_31 : decode cX0_isBalanced 31 = .ok (.getfield 42, 3) := by decide +kernel
theorem dX0_isBalanced_34 : decode cX0_isBalanced 34 = .ok (.if_icmp .ge 40, 3) := by decide +kernel
theorem dX0_isBalanced_74 : decode cX0_isBalanced 74 = .ok (.iload_n 2, 1) := by decide +kernel
theorem dX0_isBalanced_75 : decode cX0_isBalanced 75 = .ok (.ifCond .ne 7, 3) := by decide +kernel
theorem dX0_isBalanced_82 : decode cX0_isBalanced 82 = .ok (.iconst 0, 1) := by decide +kernel
theorem dX0_isBalanced_83 : decode cX0_isBalanced 83 = .ok (.ireturn, 1) := by decide +kernel
theorem dX0_isBalanced_78 : decode cX0_isBalanced 78 = .ok (.iconst 1, 1) := by decide +kernel
theorem dX0_isBalanced_79 : decode cX0_isBalanced 79 = .ok (.goto 4, 3) := by decide +kernel
theorem dX0_isBalanced_37 : decode cX0_isBalanced 37 = .ok (.iload_n 2, 1) := by decide +kernel
theorem dX0_isBalanced_38 : decode cX0_isBalanced 38 = .ok (.aload_n 0, 1) := by decide +kernel
theorem dX0_isBalanced_39 : decode cX0_isBalanced 39 = .ok (.getfield 20, 3) := by decide +kernel
theorem dX0_isBalanced_42 : decode cX0_isBalanced 42 = .ok (.iload_n 3, 1) := by decide +kernel
theorem dX0_isBalanced_43 : decode cX0_isBalanced 43 = .ok (.aaload, 1) := by decide +kernel
theorem dX0_isBalanced_44 : decode cX0_isBalanced 44 = .ok (.getfield 45, 3) := by decide +kernel
theorem dX0_isBalanced_47 : decode cX0_isBalanced 47 = .ok (.aload_n 0, 1) := by decide +kernel
theorem dX0_isBalanced_48 : decode cX0_isBalanced 48 = .ok (.getfield 20, 3) := by decide +kernel
theorem dX0_isBalanced_51 : decode cX0_isBalanced 51 = .ok (.iload_n 3, 1) := by decide +kernel
theorem dX0_isBalanced_52 : decode cX0_isBalanced 52 = .ok (.aaload, 1) := by decide +kernel
theorem dX0_isBalanced_53 : decode cX0_isBalanced 53 = .ok (.aload_n 1, 1) := by decide +kernel
theorem dX0_isBalanced_54 : decode cX0_isBalanced 54 = .ok (.getfield 62, 3) := by decide +kernel
theorem dX0_isBalanced_57 : decode cX0_isBalanced 57 = .ok (.iload_n 3, 1) := by decide +kernel
theorem dX0_isBalanced_58 : decode cX0_isBalanced 58 = .ok (.iaload, 1) := by decide +kernel
theorem dX0_isBalanced_59 : decode cX0_isBalanced 59 = .ok (.invokevirtual 67, 3) := by decide +kernel
set_option maxRecDepth 20000 in
theorem ggX0_isBalanced_X4_bitsOf : GoodIn wsX0_isBalanced wsX4_bitsOf := goodIn_ca (goodIn_r _ [11, 12, 13, 28, 29, 30, 31, 32, 33] (by decide +kernel) (by decide +kernel)) (goodIn_sub (fun _ h => List.mem_cons_of_mem _ (List.mem_append_right _ h)) (by decide +kernel))
set_option maxRecDepth 20000 in
theorem gX0_isBalanced_X4_bitsOf : GoodIn wsX0_isBalanced (wsV RX0 67 RX4 yX4_bitsOf wsX4_bitsOf) := goodIn_app (goodIn_of _ (by decide +kernel)) ggX0_isBalanced_X4_bitsOf
theorem dX0_isBalanced_62 : decode cX0_isBalanced 62 = .ok (.invokestatic 125, 3) := by decide +kernel
set_option maxRecDepth 20000 in
theorem ggX0_isBalanced_J6_bitCount_0f7a4 : GoodIn wsX0_isBalanced wsJ6_bitCount_0f7a4 := goodIn_r _ [17, 18, 19, 20] (by decide +kernel) (by decide +kernel)
set_option maxRecDepth 20000 in
theorem gX0_isBalanced_J6_bitCount_0f7a4 : GoodIn wsX0_isBalanced (va_wsS RX0 125 yJ6_bitCount_0f7a4 wsJ6_bitCount_0f7a4) := goodIn_app (goodIn_of _ (by decide +kernel)) ggX0_isBalanced_J6_bitCount_0f7a4
theorem dX0_isBalanced_65 : decode cX0_isBalanced 65 = .ok (.imul, 1) := by decide +kernel
theorem dX0_isBalanced_66 : decode cX0_isBalanced 66 = .ok (.isub, 1) := by decide +kernel
theorem dX0_isBalanced_67 : decode cX0_isBalanced 67 = .ok (.istore_n 2, 1) := by decide +kernel
theorem dX0_isBalanced_68 : decode cX0_isBalanced 68 = .ok (.iinc 3 1, 3) := by decide +kernel
theorem dX0_isBalanced_71 : decode cX0_isBalanced 71 = .ok (.goto (-42), 3) := by decide +kernel
theorem dX0_isBalanced_12 : decode cX0_isBalanced 12 = .ok (.iload_n 2, 1) := by decide +kernel
theorem dX0_isBalanced_13 : decode cX0_isBalanced 13 = .ok (.aload_n 1, 1) := by decide +kernel
theorem dX0_isBalanced_14 : decode cX0_isBalanced 14 = .ok (.getfield 75, 3) := by decide +kernel
theorem dX0_isBalanced_17 : decode cX0_isBalanced 17 = .ok (.iload_n 3, 1) := by decide +kernel
theorem dX0_isBalanced_18 : decode cX0_isBalanced 18 = .ok (.iaload, 1) := by decide +kernel
theorem dX0_isBalanced_19 : decode cX0_isBalanced 19 = .ok (.iadd, 1) := by decide +kernel
theorem dX0_isBalanced_20 : decode cX0_isBalanced 20 = .ok (.istore_n 2, 1) := by decide +kernel
theorem dX0_isBalanced_21 : decode cX0_isBalanced 21 = .ok (.iinc 3 1, 3) := by decide +kernel
theorem dX0_isBalanced_24 : decode cX0_isBalanced 24 = .ok (.goto (-20), 3) := by decide +kernel
set_option maxHeartbeats 4000000 in
set_option maxRecDepth 100000 in
theorem b_X0_isBalanced {X : VC} {μ : Mem} (y : Nat) (hy : y < 2) (hW : WF μ) (hB : PB μ y) (K : vK X cX0_isBalanced 4 RX0 wsX0_isBalanced ({ frames := 1, cells := 0, slots := 0, locals := 21 } : Room)) (hret : ∀ (z : Int) (ν : Mem), (fun (z : Int) (ν : Mem) => z = (if bal μ y = 0 then 1 else 0) ∧ ν = μ) z ν → ∀ n pc k1 k2 lv, k1 ≤ 0 → k2 ≤ 0 → decode cX0_isBalanced pc = .ok (.ireturn, 1) → vW X n pc k1 k2 lv [.int (iZ z)] ν) : vW X 4 0 0 0 [(0, .ref (vAd X 1)), (1, .ref (vAd X (2 + y)))] [] μ := by
  have hpc := hW.pc6
  have hrc := hW.rc8
  refine v_iconst K dX0_isBalanced_0 ?_
  refine v_istore_n [(2, .int (iZ 0)), (0, .ref (vAd X 1)), (1, .ref (vAd X (2 + y)))] K dX0_isBalanced_1 (by decide) rfl ?_
  refine v_iconst K dX0_isBalanced_2 ?_
  refine v_istore_n [(3, .int (iZ 0)), (2, .int (iZ 0)), (0, .ref (vAd X 1)), (1, .ref (vAd X (2 + y)))] K dX0_isBalanced_3 (by decide) rfl ?_
  have L4 : ∀ (fuel : Nat) (r : Nat) (hm : 9 - r < fuel) (hr : r ≤ rc μ), vW X 4 4 0 0 [(0, .ref (vAd X 1)), (1, .ref (vAd X (2 + y))), (2, .int (iZ (sm r (μ (6 + 2 * y))))), (3, .int (iZ (r : Int)))] [] μ := by
    intro fuel
    induction fuel with
    | zero => intro r hm; exact absurd hm (Nat.not_lt_zero _)
    | succ fuel ih4 =>
      intro r hm hr
      refine v_iload_n 3 K dX0_isBalanced_4 rfl ?_
      refine v_aload_n 0 K dX0_isBalanced_5 rfl ?_
      refine v_get (c := 1) (k := 2) (C := RX0) (T := TX0) (N := 4) (v := .int (iZ (μ 1 2))) K isO_Bd rfl (fun _ h => (List.mem_cons_of_mem _ (List.mem_append_left _ (List.mem_append_left _ (List.mem_append_left _ (List.mem_append_right _ h)))))) (by decide) (List.mem_cons_of_mem _ (List.mem_append_left _ (List.mem_append_left _ (List.mem_append_left _ (List.mem_append_left _ (List.mem_of_getElem? (i := 0) rfl)))))) rfl dX0_isBalanced_6 rfl ?_
      refine v_icmp_ge 27 K dX0_isBalanced_9 (by decide) (by omega) (by omega) (fun c9 => ?_) (fun c9 => ?_)
      · refine v_iconst K dX0_isBalanced_27 ?_
        refine v_istore_n [(3, .int (iZ 0)), (0, .ref (vAd X 1)), (1, .ref (vAd X (2 + y))), (2, .int (iZ (sm r (μ (6 + 2 * y)))))] K dX0_isBalanced_28 (by decide) rfl ?_
        have L29 : ∀ (fuel : Nat) (p : Nat) (hm : 7 - p < fuel) (hp : p ≤ pcn μ), vW X 4 29 0 0 [(0, .ref (vAd X 1)), (1, .ref (vAd X (2 + y))), (2, .int (iZ (sm (rc μ) (μ (6 + 2 * y)) - sm p (popT μ y)))), (3, .int (iZ (p : Int)))] [] μ := by
          intro fuel
          induction fuel with
          | zero => intro p hm; exact absurd hm (Nat.not_lt_zero _)
          | succ fuel ih29 =>
            intro p hm hp
            refine v_iload_n 3 K dX0_isBalanced_29 rfl ?_
            refine v_aload_n 0 K dX0_isBalanced_30 rfl ?_
            refine v_get (c := 1) (k := 3) (C := RX0) (T := TX0) (N := 4) (v := .int (iZ (μ 1 3))) K isO_Bd rfl (fun _ h => (List.mem_cons_of_mem _ (List.mem_append_left _ (List.mem_append_left _ (List.mem_append_left _ (List.mem_append_right _ h)))))) (by decide) (List.mem_cons_of_mem _ (List.mem_append_left _ (List.mem_append_left _ (List.mem_append_left _ (List.mem_append_left _ (List.mem_of_getElem? (i := 2) rfl)))))) rfl dX0_isBalanced_31 rfl ?_
            refine v_icmp_ge 74 K dX0_isBalanced_34 (by decide) (by omega) (by omega) (fun c34 => ?_) (fun c34 => ?_)
            · have hbr := bal_rng hW hB (rc μ) p (by omega) (by omega)
              have hbe : bal μ y = sm (rc μ) (μ (6 + 2 * y)) - sm p (popT μ y) := by unfold bal; rw [show pcn μ = p by omega]
              refine v_iload_n 2 K dX0_isBalanced_74 rfl ?_
              refine v_if_ne 82 K dX0_isBalanced_75 (by decide) (by omega) (fun c75 => ?_) (fun c75 => ?_)
              · refine v_iconst K dX0_isBalanced_82 ?_
                exact hret _ _ ⟨(by rw [if_neg (by omega)]), rfl⟩ _ _ _ _ _ (Nat.le_of_ble_eq_true rfl) (Nat.le_of_ble_eq_true rfl) dX0_isBalanced_83
              · refine v_iconst K dX0_isBalanced_78 ?_
                refine v_goto 83 K dX0_isBalanced_79 (by decide) ?_
                exact hret _ _ ⟨(by rw [if_pos (by omega)]), rfl⟩ _ _ _ _ _ (Nat.le_of_ble_eq_true rfl) (Nat.le_of_ble_eq_true rfl) dX0_isBalanced_83
            · have hpl := hW.pl (p := p) (by omega)
              have hch := hB.1 p (by omega)
              have hb1 := bits_rng hW (p := p) (by omega) (μ (5 + 2 * y) p)
              refine v_iload_n 2 K dX0_isBalanced_37 rfl ?_
              refine v_aload_n 0 K dX0_isBalanced_38 rfl ?_
              refine v_get (c := 1) (k := 1) (C := RX0) (T := TX0) (N := 4) (v := .ref (vAd X 20)) K isO_Bd rfl (fun _ h => (List.mem_cons_of_mem _ (List.mem_append_left _ (List.mem_append_left _ (List.mem_append_left _ (List.mem_append_right _ h)))))) (by decide) (List.mem_cons_of_mem _ (List.mem_append_left _ (List.mem_append_left _ (List.mem_append_left _ (List.mem_append_left _ (List.mem_of_getElem? (i := 3) rfl)))))) rfl dX0_isBalanced_39 rfl ?_
              refine v_iload_n 3 K dX0_isBalanced_42 rfl ?_
              refine v_aald (c := 20) p K isQ_Py rfl rfl (by omega) dX0_isBalanced_43 ?_
              refine v_get (c := (37 + p)) (k := 0) (C := RX4) (T := TX4) (N := 6) (v := .int (iZ (μ (37 + p) 0))) K (isO_Py (p := p) (by omega)) rfl (fun _ h => (List.mem_cons_of_mem _ (List.mem_append_left _ (List.mem_append_right _ h)))) (by decide) (List.mem_cons_of_mem _ (List.mem_append_left _ (List.mem_append_left _ (List.mem_append_left _ (List.mem_append_left _ (List.mem_of_getElem? (i := 4) rfl)))))) rfl dX0_isBalanced_44 rfl ?_
              refine v_aload_n 0 K dX0_isBalanced_47 rfl ?_
              refine v_get (c := 1) (k := 1) (C := RX0) (T := TX0) (N := 4) (v := .ref (vAd X 20)) K isO_Bd rfl (fun _ h => (List.mem_cons_of_mem _ (List.mem_append_left _ (List.mem_append_left _ (List.mem_append_left _ (List.mem_append_right _ h)))))) (by decide) (List.mem_cons_of_mem _ (List.mem_append_left _ (List.mem_append_left _ (List.mem_append_left _ (List.mem_append_left _ (List.mem_of_getElem? (i := 3) rfl)))))) rfl dX0_isBalanced_48 rfl ?_
              refine v_iload_n 3 K dX0_isBalanced_51 rfl ?_
              refine v_aald (c := 20) p K isQ_Py rfl rfl (by omega) dX0_isBalanced_52 ?_
              refine v_aload_n 1 K dX0_isBalanced_53 rfl ?_
              refine v_get (c := (2 + y)) (k := 0) (C := RX3) (T := TX3) (N := 3) (v := .ref (vAd X (5 + 2 * y))) K (isO_Pl (y := y) (by omega)) rfl (fun _ h => (List.mem_cons_of_mem _ (List.mem_append_left _ (List.mem_append_left _ (List.mem_append_right _ h))))) (by decide) (List.mem_cons_of_mem _ (List.mem_append_left _ (List.mem_append_left _ (List.mem_append_left _ (List.mem_append_left _ (List.mem_of_getElem? (i := 5) rfl)))))) rfl dX0_isBalanced_54 rfl ?_
              refine v_iload_n 3 K dX0_isBalanced_57 rfl ?_
              refine v_iald (c := (5 + 2 * y)) p K (isI_ch (y := y) (by omega)) rfl (by omega) dX0_isBalanced_58 ?_
              refine v_callVir (c := (37 + p)) (As := [.int (iZ (μ (5 + 2 * y) p))]) (rest := [.int (iZ (μ (37 + p) 0)), .int (iZ (sm (rc μ) (μ (6 + 2 * y)) - sm p (popT μ y)))]) K (isO_Py (p := p) (by omega)) rfl 1 (c_X4_bitsOf X.1.2.1 K.2.2.2.2.2.2 _ _ _ μ p (μ (5 + 2 * y) p) (by omega) (by omega) hW) gX0_isBalanced_X4_bitsOf rfl rfl rfl (by decide +kernel) ⟨(Nat.le_of_ble_eq_true rfl), (Nat.le_of_ble_eq_true rfl)⟩ rfl rfl (Nat.le_of_ble_eq_true rfl) dX0_isBalanced_59 ⟨(Nat.le_of_ble_eq_true rfl), (Nat.le_of_ble_eq_true rfl)⟩ ?_
              refine v_callSir (As := [.int (iZ (bits μ p (μ (5 + 2 * y) p)))]) (rest := [.int (iZ (μ (37 + p) 0)), .int (iZ (sm (rc μ) (μ (6 + 2 * y)) - sm p (popT μ y)))]) K 1 (c_J6_bitCount_0f7a4 X.1.2.1 K.2.2.2.2.2.2 _ _ _ μ (bits μ p (μ (5 + 2 * y) p)) (by omega)) gX0_isBalanced_J6_bitCount_0f7a4 rfl rfl rfl (by decide +kernel) ⟨(Nat.le_of_ble_eq_true rfl), (Nat.le_of_ble_eq_true rfl)⟩ rfl rfl (Nat.le_of_ble_eq_true rfl) dX0_isBalanced_62 ⟨(Nat.le_of_ble_eq_true rfl), (Nat.le_of_ble_eq_true rfl)⟩ ?_
              refine v_imul K dX0_isBalanced_65 ?_
              refine v_isub K dX0_isBalanced_66 ?_
              refine v_istore_n [(2, .int (iZ ((sm (rc μ) (μ (6 + 2 * y)) - sm p (popT μ y)) - ((μ (37 + p) 0) * (pop8 (bits μ p (μ (5 + 2 * y) p))))))), (0, .ref (vAd X 1)), (1, .ref (vAd X (2 + y))), (3, .int (iZ (p : Int)))] K dX0_isBalanced_67 (by decide) rfl ?_
              refine v_iinc 3 [(3, .int (iZ ((p : Int) + 1))), (2, .int (iZ ((sm (rc μ) (μ (6 + 2 * y)) - sm p (popT μ y)) - ((μ (37 + p) 0) * (pop8 (bits μ p (μ (5 + 2 * y) p))))))), (0, .ref (vAd X 1)), (1, .ref (vAd X (2 + y)))] K dX0_isBalanced_68 rfl (by decide) rfl ?_
              refine v_goto 29 K dX0_isBalanced_71 (by decide) ?_
              refine v_sub [2, 3, 1, 0] rfl ?_
              refine v_eq (lv1 := [(0, .ref (vAd X 1)), (1, .ref (vAd X (2 + y))), (2, .int (iZ (sm (rc μ) (μ (6 + 2 * y)) - sm (p + 1) (popT μ y)))), (3, .int (iZ (((p + 1) : Nat) : Int)))]) (st1 := []) (v_c0 (v_c0 (v_cI (by rw [sm_s]; unfold popT; omega) (v_cI (by first | rfl | omega) rfl)))) rfl ?_
              exact ih29 (p + 1) (by omega) (by omega)
        refine v_sub [1, 2, 3, 0] rfl ?_
        refine v_eq (lv1 := [(0, .ref (vAd X 1)), (1, .ref (vAd X (2 + y))), (2, .int (iZ (sm (rc μ) (μ (6 + 2 * y)) - sm 0 (popT μ y)))), (3, .int (iZ ((0 : Nat) : Int)))]) (st1 := []) (v_c0 (v_c0 (v_cI (by rw [sm_0, show rc μ = r by omega]; omega) (v_cI (by first | rfl | omega) rfl)))) rfl ?_
        exact L29 (7 - 0 + 1) 0 (by omega) (by omega)
      · refine v_iload_n 2 K dX0_isBalanced_12 rfl ?_
        refine v_aload_n 1 K dX0_isBalanced_13 rfl ?_
        refine v_get (c := (2 + y)) (k := 1) (C := RX3) (T := TX3) (N := 3) (v := .ref (vAd X (6 + 2 * y))) K (isO_Pl (y := y) (by omega)) rfl (fun _ h => (List.mem_cons_of_mem _ (List.mem_append_left _ (List.mem_append_left _ (List.mem_append_right _ h))))) (by decide) (List.mem_cons_of_mem _ (List.mem_append_left _ (List.mem_append_left _ (List.mem_append_left _ (List.mem_append_left _ (List.mem_of_getElem? (i := 1) rfl)))))) rfl dX0_isBalanced_14 rfl ?_
        refine v_iload_n 3 K dX0_isBalanced_17 rfl ?_
        refine v_iald (c := (6 + 2 * y)) r K (isI_ld (y := y) (by omega)) rfl (by omega) dX0_isBalanced_18 ?_
        refine v_iadd K dX0_isBalanced_19 ?_
        refine v_istore_n [(2, .int (iZ ((sm r (μ (6 + 2 * y))) + (μ (6 + 2 * y) r)))), (0, .ref (vAd X 1)), (1, .ref (vAd X (2 + y))), (3, .int (iZ (r : Int)))] K dX0_isBalanced_20 (by decide) rfl ?_
        refine v_iinc 3 [(3, .int (iZ ((r : Int) + 1))), (2, .int (iZ ((sm r (μ (6 + 2 * y))) + (μ (6 + 2 * y) r)))), (0, .ref (vAd X 1)), (1, .ref (vAd X (2 + y)))] K dX0_isBalanced_21 rfl (by decide) rfl ?_
        refine v_goto 4 K dX0_isBalanced_24 (by decide) ?_
        refine v_sub [2, 3, 1, 0] rfl ?_
        refine v_eq (lv1 := [(0, .ref (vAd X 1)), (1, .ref (vAd X (2 + y))), (2, .int (iZ (sm (r + 1) (μ (6 + 2 * y))))), (3, .int (iZ (((r + 1) : Nat) : Int)))]) (st1 := []) (v_c0 (v_c0 (v_cI (by first | rfl | omega) (v_cI (by first | rfl | omega) rfl)))) rfl ?_
        exact ih4 (r + 1) (by omega) (by omega)
  refine v_sub [2, 3, 1, 0] rfl ?_
  refine v_eq (lv1 := [(0, .ref (vAd X 1)), (1, .ref (vAd X (2 + y))), (2, .int (iZ (sm 0 (μ (6 + 2 * y))))), (3, .int (iZ ((0 : Nat) : Int)))]) (st1 := []) (v_c0 (v_c0 (v_cI (by first | rfl | omega) (v_cI (by first | rfl | omega) rfl)))) rfl ?_
  exact L4 (9 - 0 + 1) 0 (by omega) (by omega)
theorem c_X0_isBalanced (l : Launch) (hl : l.stackTraces = false) (D : va_G) (cy : Nat → ClassId) (ad : Nat → Nat) (μ : Mem) (y : Nat) (hy : y < 2) (hW : WF μ) (hB : PB μ y) : cI l yX0_isBalanced wsX0_isBalanced ({ frames := 1, cells := 0, slots := 0, locals := 21 } : Room) D cy ad μ [.ref (ad 1), .ref (ad (2 + y))] (fun (z : Int) (ν : Mem) => z = (if bal μ y = 0 then 1 else 0) ∧ ν = μ) :=
  m_int (av := (fun ad => [.ref (ad 1), .ref (ad (2 + y))])) hl (by decide) rfl rfl (Nat.le_of_ble_eq_true rfl) (fun z ν q => (nar_z (by rw [q.1]; split <;> omega)).1) (fun X K hret => b_X0_isBalanced y hy hW hB K hret)
theorem dX7_checkRange_0 : decode cX7_checkRange 0 = .ok (.iload_n 1, 1) := by decide +kernel
theorem dX7_checkRange_1 : decode cX7_checkRange 1 = .ok (.iload_n 2, 1) := by decide +kernel
theorem dX7_checkRange_2 : decode cX7_checkRange 2 = .ok (.if_icmp .lt 8, 3) := by decide +kernel
theorem dX7_checkRange_5 : decode cX7_checkRange 5 = .ok (.iload_n 1, 1) := by decide +kernel
theorem dX7_checkRange_6 : decode cX7_checkRange 6 = .ok (.iload_n 3, 1) := by decide +kernel
theorem dX7_checkRange_7 : decode cX7_checkRange 7 = .ok (.if_icmp .le 14, 3) := by decide +kernel
theorem dX7_checkRange_21 : decode cX7_checkRange 21 = .ok (.return_, 1) := by decide +kernel
set_option maxHeartbeats 4000000 in
set_option maxRecDepth 100000 in
theorem b_X7_checkRange {X : VC} {μ : Mem} (n : Int) (lo : Int) (hi : Int) (h1 : lo ≤ n ∧ n ≤ hi) (h2 : -2147483648 ≤ lo ∧ hi ≤ 2147483647) (K : vK X cX7_checkRange 4 RX7 wsX7_checkRange ({ frames := 0, cells := 0, slots := 0, locals := 0 } : Room)) (hret : ∀ (ν : Mem), (fun (ν : Mem) => ν = μ) ν → ∀ n pc k1 k2 lv, k1 ≤ 0 → k2 ≤ 0 → decode cX7_checkRange pc = .ok (.return_, 1) → vW X n pc k1 k2 lv [] ν) : vW X 4 0 0 0 [(0, .ref (vAd X 0)), (1, .int (iZ n)), (2, .int (iZ lo)), (3, .int (iZ hi))] [] μ := by
  refine v_iload_n 1 K dX7_checkRange_0 rfl ?_
  refine v_iload_n 2 K dX7_checkRange_1 rfl ?_
  refine v_icmp_lt 10 K dX7_checkRange_2 (by decide) (by omega) (by omega) (fun c2 => (by exfalso; omega)) (fun c2 => ?_)
  refine v_iload_n 1 K dX7_checkRange_5 rfl ?_
  refine v_iload_n 3 K dX7_checkRange_6 rfl ?_
  refine v_icmp_le 21 K dX7_checkRange_7 (by decide) (by omega) (by omega) (fun c7 => ?_) (fun c7 => (by exfalso; omega))
  exact hret _ rfl _ _ _ _ _ (Nat.le_of_ble_eq_true rfl) (Nat.le_of_ble_eq_true rfl) dX7_checkRange_21
theorem c_X7_checkRange (l : Launch) (hl : l.stackTraces = false) (D : va_G) (cy : Nat → ClassId) (ad : Nat → Nat) (μ : Mem) (n : Int) (lo : Int) (hi : Int) (h1 : lo ≤ n ∧ n ≤ hi) (h2 : -2147483648 ≤ lo ∧ hi ≤ 2147483647) : cV l yX7_checkRange wsX7_checkRange ({ frames := 0, cells := 0, slots := 0, locals := 0 } : Room) D cy ad μ [.ref (ad 0), .int (iZ n), .int (iZ lo), .int (iZ hi)] (fun (ν : Mem) => ν = μ) :=
  m_void (av := (fun ad => [.ref (ad 0), .int (iZ n), .int (iZ lo), .int (iZ hi)])) hl (by decide) rfl rfl (Nat.le_of_ble_eq_true rfl) (fun X K hret => b_X7_checkRange n lo hi h1 h2 K hret)
theorem dX7_checkRange_10 : decode cX7_checkRange 10 = .ok (.new 95, 3) := by decide +kernel
theorem dX7_checkRange_13 : decode cX7_checkRange 13 = .ok (.dup, 1) := by decide +kernel
theorem dX7_checkRange_14 : decode cX7_checkRange 14 = .ok (.ldc_w 362, 3) := by decide +kernel
theorem dX7_checkRange_17 : decode cX7_checkRange 17 = .ok (.invokespecial 99, 3) := by decide +kernel
theorem dX7_checkRange_20 : decode cX7_checkRange 20 = .ok (.athrow, 1) := by decide +kernel
set_option maxHeartbeats 4000000 in
set_option maxRecDepth 100000 in
theorem b_X7_checkRangeT {X : VC} {μ : Mem} (n : Int) (lo : Int) (hi : Int) (hn : -2147483648 ≤ n ∧ n ≤ 2147483647) (h1 : n < lo ∨ hi < n) (h2 : -2147483648 ≤ lo ∧ lo ≤ 2147483647) (h3 : -2147483648 ≤ hi ∧ hi ≤ 2147483647) (K : vK X cX7_checkRange 4 RX7 wsX7_checkRange ({ frames := 6, cells := 1, slots := 6, locals := 82 } : Room)) (T : vT X μ "java/lang/IllegalArgumentException") : vW X 4 0 0 0 [(0, .ref (vAd X 0)), (1, .int (iZ n)), (2, .int (iZ lo)), (3, .int (iZ hi))] [] μ := by
  refine v_iload_n 1 K dX7_checkRange_0 rfl ?_
  refine v_iload_n 2 K dX7_checkRange_1 rfl ?_
  refine v_icmp_lt 10 K dX7_checkRange_2 (by decide) (by omega) (by omega) (fun c2 => ?_) (fun c2 => ?_)
  · exact v_throwSW (own := RX7) (cls := "java/lang/IllegalArgumentException") (text := "a number is out of range") K T (by decide +kernel) (by decide +kernel) (List.mem_cons_of_mem _ (List.mem_append_left _ (List.mem_of_getElem? (i := 0) rfl))) (List.mem_cons_of_mem _ (List.mem_append_left _ (List.mem_of_getElem? (i := 1) rfl))) (fun w h => (List.mem_cons_of_mem _ (List.mem_append_right _ h))) (by decide +kernel) (by decide +kernel) (by decide +kernel) dX7_checkRange_10 dX7_checkRange_13 dX7_checkRange_14 dX7_checkRange_17 dX7_checkRange_20 (Nat.le_of_ble_eq_true rfl) (Nat.le_of_ble_eq_true rfl) (Nat.le_of_ble_eq_true rfl) (Nat.le_of_ble_eq_true rfl)
  · refine v_iload_n 1 K dX7_checkRange_5 rfl ?_
    refine v_iload_n 3 K dX7_checkRange_6 rfl ?_
    refine v_icmp_le 21 K dX7_checkRange_7 (by decide) (by omega) (by omega) (fun c7 => (by exfalso; omega)) (fun c7 => ?_)
    exact v_throwSW (own := RX7) (cls := "java/lang/IllegalArgumentException") (text := "a number is out of range") K T (by decide +kernel) (by decide +kernel) (List.mem_cons_of_mem _ (List.mem_append_left _ (List.mem_of_getElem? (i := 0) rfl))) (List.mem_cons_of_mem _ (List.mem_append_left _ (List.mem_of_getElem? (i := 1) rfl))) (fun w h => (List.mem_cons_of_mem _ (List.mem_append_right _ h))) (by decide +kernel) (by decide +kernel) (by decide +kernel) dX7_checkRange_10 dX7_checkRange_13 dX7_checkRange_14 dX7_checkRange_17 dX7_checkRange_20 (Nat.le_of_ble_eq_true rfl) (Nat.le_of_ble_eq_true rfl) (Nat.le_of_ble_eq_true rfl) (Nat.le_of_ble_eq_true rfl)
theorem c_X7_checkRangeT (l : Launch) (hl : l.stackTraces = false) (D : va_G) (cy : Nat → ClassId) (ad : Nat → Nat) (μ : Mem) (n : Int) (lo : Int) (hi : Int) (hn : -2147483648 ≤ n ∧ n ≤ 2147483647) (h1 : n < lo ∨ hi < n) (h2 : -2147483648 ≤ lo ∧ lo ≤ 2147483647) (h3 : -2147483648 ≤ hi ∧ hi ≤ 2147483647) : cTv l yX7_checkRange wsX7_checkRange ({ frames := 6, cells := 1, slots := 6, locals := 82 } : Room) D cy ad μ [.ref (ad 0), .int (iZ n), .int (iZ lo), .int (iZ hi)] "java/lang/IllegalArgumentException" :=
  m_thrv (av := (fun ad => [.ref (ad 0), .int (iZ n), .int (iZ lo), .int (iZ hi)])) hl (by decide) rfl rfl (Nat.le_of_ble_eq_true rfl) (fun X K T => b_X7_checkRangeT n lo hi hn h1 h2 h3 K T)
theorem dX7_checkNumbers_0 : decode cX7_checkNumbers 0 = .ok (.iload_n 1, 1) := by decide +kernel
theorem dX7_checkNumbers_1 : decode cX7_checkNumbers 1 = .ok (.bipush 99, 2) := by decide +kernel
theorem dX7_checkNumbers_3 : decode cX7_checkNumbers 3 = .ok (.if_icmp .eq 32, 3) := by decide +kernel
theorem dX7_checkNumbers_35 : decode cX7_checkNumbers 35 = .ok (.aload_n 0, 1) := by decide +kernel
theorem dX7_checkNumbers_36 : decode cX7_checkNumbers 36 = .ok (.iload_n 2, 1) := by decide +kernel
theorem dX7_checkNumbers_37 : decode cX7_checkNumbers 37 = .ok (.iconst 0, 1) := by decide +kernel
theorem dX7_checkNumbers_38 : decode cX7_checkNumbers 38 = .ok (.bipush 20, 2) := by decide +kernel
theorem dX7_checkNumbers_40 : decode cX7_checkNumbers 40 = .ok (.invokevirtual 174, 3) := by decide +kernel
set_option maxRecDepth 20000 in
theorem ggX7_checkNumbers_X7_checkRange : GoodIn wsX7_checkNumbers wsX7_checkRange := goodIn_ca (goodIn_r _ [7, 1, 2] (by decide +kernel) (by decide +kernel)) (goodIn_sub (fun _ h => List.mem_cons_of_mem _ (List.mem_append_right _ h)) (by decide +kernel))
set_option maxRecDepth 20000 in
theorem gX7_checkNumbers_X7_checkRange : GoodIn wsX7_checkNumbers (wsV RX7 174 RX7 yX7_checkRange wsX7_checkRange) := goodIn_app (goodIn_of _ (by decide +kernel)) ggX7_checkNumbers_X7_checkRange
theorem dX7_checkNumbers_43 : decode cX7_checkNumbers 43 = .ok (.aload_n 0, 1) := by decide +kernel
theorem dX7_checkNumbers_44 : decode cX7_checkNumbers 44 = .ok (.iload_n 3, 1) := by decide +kernel
theorem dX7_checkNumbers_45 : decode cX7_checkNumbers 45 = .ok (.iconst 0, 1) := by decide +kernel
theorem dX7_checkNumbers_46 : decode cX7_checkNumbers 46 = .ok (.sipush 999, 3) := by decide +kernel
theorem dX7_checkNumbers_49 : decode cX7_checkNumbers 49 = .ok (.invokevirtual 174, 3) := by decide +kernel
theorem dX7_checkNumbers_52 : decode cX7_checkNumbers 52 = .ok (.return_, 1) := by decide +kernel
theorem dX7_checkNumbers_6 : decode cX7_checkNumbers 6 = .ok (.iload_n 1, 1) := by decide +kernel
theorem dX7_checkNumbers_7 : decode cX7_checkNumbers 7 = .ok (.bipush 108, 2) := by decide +kernel
theorem dX7_checkNumbers_9 : decode cX7_checkNumbers 9 = .ok (.if_icmp .eq 26, 3) := by decide +kernel
theorem dX7_checkNumbers_12 : decode cX7_checkNumbers 12 = .ok (.iload_n 1, 1) := by decide +kernel
theorem dX7_checkNumbers_13 : decode cX7_checkNumbers 13 = .ok (.bipush 113, 2) := by decide +kernel
theorem dX7_checkNumbers_15 : decode cX7_checkNumbers 15 = .ok (.if_icmp .eq 20, 3) := by decide +kernel
theorem dX7_checkNumbers_18 : decode cX7_checkNumbers 18 = .ok (.iload_n 1, 1) := by decide +kernel
theorem dX7_checkNumbers_19 : decode cX7_checkNumbers 19 = .ok (.bipush 115, 2) := by decide +kernel
theorem dX7_checkNumbers_21 : decode cX7_checkNumbers 21 = .ok (.if_icmp .eq 14, 3) := by decide +kernel
set_option maxHeartbeats 4000000 in
set_option maxRecDepth 100000 in
theorem b_X7_checkNumbers {X : VC} {μ : Mem} (k : Int) (a : Int) (b : Int) (hk : k = 99 ∨ k = 108 ∨ k = 113 ∨ k = 115) (ha : 0 ≤ a ∧ a ≤ 20) (hb : 0 ≤ b ∧ b ≤ 999) (K : vK X cX7_checkNumbers 4 RX7 wsX7_checkNumbers ({ frames := 1, cells := 0, slots := 0, locals := 23 } : Room)) (hret : ∀ (ν : Mem), (fun (ν : Mem) => ν = μ) ν → ∀ n pc k1 k2 lv, k1 ≤ 0 → k2 ≤ 0 → decode cX7_checkNumbers pc = .ok (.return_, 1) → vW X n pc k1 k2 lv [] ν) : vW X 4 0 0 0 [(0, .ref (vAd X 0)), (1, .int (iZ k)), (2, .int (iZ a)), (3, .int (iZ b))] [] μ := by
  refine v_iload_n 1 K dX7_checkNumbers_0 rfl ?_
  refine v_bipush K dX7_checkNumbers_1 (by decide) ?_
  refine v_icmp_eq 35 K dX7_checkNumbers_3 (by decide) (by omega) (by decide) (fun c3 => ?_) (fun c3 => ?_)
  · refine v_aload_n 0 K dX7_checkNumbers_35 rfl ?_
    refine v_iload_n 2 K dX7_checkNumbers_36 rfl ?_
    refine v_iconst K dX7_checkNumbers_37 ?_
    refine v_bipush K dX7_checkNumbers_38 (by decide) ?_
    refine v_callVvr (c := 0) (As := [.int (iZ a), .int (iZ 0), .int (iZ 20)]) (rest := []) K isO_SJ rfl 3 (c_X7_checkRange X.1.2.1 K.2.2.2.2.2.2 _ _ _ μ a 0 20 ha (by omega)) gX7_checkNumbers_X7_checkRange rfl rfl rfl (by decide +kernel) ⟨(Nat.le_of_ble_eq_true rfl), (Nat.le_of_ble_eq_true rfl)⟩ rfl rfl (Nat.le_of_ble_eq_true rfl) dX7_checkNumbers_40 ⟨(Nat.le_of_ble_eq_true rfl), (Nat.le_of_ble_eq_true rfl)⟩ ?_
    refine v_aload_n 0 K dX7_checkNumbers_43 rfl ?_
    refine v_iload_n 3 K dX7_checkNumbers_44 rfl ?_
    refine v_iconst K dX7_checkNumbers_45 ?_
    refine v_sipush K dX7_checkNumbers_46 (by decide) ?_
    refine v_callVvr (c := 0) (As := [.int (iZ b), .int (iZ 0), .int (iZ 999)]) (rest := []) K isO_SJ rfl 3 (c_X7_checkRange X.1.2.1 K.2.2.2.2.2.2 _ _ _ μ b 0 999 hb (by omega)) gX7_checkNumbers_X7_checkRange rfl rfl rfl (by decide +kernel) ⟨(Nat.le_of_ble_eq_true rfl), (Nat.le_of_ble_eq_true rfl)⟩ rfl rfl (Nat.le_of_ble_eq_true rfl) dX7_checkNumbers_49 ⟨(Nat.le_of_ble_eq_true rfl), (Nat.le_of_ble_eq_true rfl)⟩ ?_
    exact hret _ rfl _ _ _ _ _ (Nat.le_of_ble_eq_true rfl) (Nat.le_of_ble_eq_true rfl) dX7_checkNumbers_52
  · refine v_iload_n 1 K dX7_checkNumbers_6 rfl ?_
    refine v_bipush K dX7_checkNumbers_7 (by decide) ?_
    refine v_icmp_eq 35 K dX7_checkNumbers_9 (by decide) (by omega) (by decide) (fun c9 => ?_) (fun c9 => ?_)
    · refine v_aload_n 0 K dX7_checkNumbers_35 rfl ?_
      refine v_iload_n 2 K dX7_checkNumbers_36 rfl ?_
      refine v_iconst K dX7_checkNumbers_37 ?_
      refine v_bipush K dX7_checkNumbers_38 (by decide) ?_
      refine v_callVvr (c := 0) (As := [.int (iZ a), .int (iZ 0), .int (iZ 20)]) (rest := []) K isO_SJ rfl 3 (c_X7_checkRange X.1.2.1 K.2.2.2.2.2.2 _ _ _ μ a 0 20 ha (by omega)) gX7_checkNumbers_X7_checkRange rfl rfl rfl (by decide +kernel) ⟨(Nat.le_of_ble_eq_true rfl), (Nat.le_of_ble_eq_true rfl)⟩ rfl rfl (Nat.le_of_ble_eq_true rfl) dX7_checkNumbers_40 ⟨(Nat.le_of_ble_eq_true rfl), (Nat.le_of_ble_eq_true rfl)⟩ ?_
      refine v_aload_n 0 K dX7_checkNumbers_43 rfl ?_
      refine v_iload_n 3 K dX7_checkNumbers_44 rfl ?_
      refine v_iconst K dX7_checkNumbers_45 ?_
      refine v_sipush K dX7_checkNumbers_46 (by decide) ?_
      refine v_callVvr (c := 0) (As := [.int (iZ b), .int (iZ 0), .int (iZ 999)]) (rest := []) K isO_SJ rfl 3 (c_X7_checkRange X.1.2.1 K.2.2.2.2.2.2 _ _ _ μ b 0 999 hb (by omega)) gX7_checkNumbers_X7_checkRange rfl rfl rfl (by decide +kernel) ⟨(Nat.le_of_ble_eq_true rfl), (Nat.le_of_ble_eq_true rfl)⟩ rfl rfl (Nat.le_of_ble_eq_true rfl) dX7_checkNumbers_49 ⟨(Nat.le_of_ble_eq_true rfl), (Nat.le_of_ble_eq_true rfl)⟩ ?_
      exact hret _ rfl _ _ _ _ _ (Nat.le_of_ble_eq_true rfl) (Nat.le_of_ble_eq_true rfl) dX7_checkNumbers_52
    · refine v_iload_n 1 K dX7_checkNumbers_12 rfl ?_
      refine v_bipush K dX7_checkNumbers_13 (by decide) ?_
      refine v_icmp_eq 35 K dX7_checkNumbers_15 (by decide) (by omega) (by decide) (fun c15 => ?_) (fun c15 => ?_)
      · refine v_aload_n 0 K dX7_checkNumbers_35 rfl ?_
        refine v_iload_n 2 K dX7_checkNumbers_36 rfl ?_
        refine v_iconst K dX7_checkNumbers_37 ?_
        refine v_bipush K dX7_checkNumbers_38 (by decide) ?_
        refine v_callVvr (c := 0) (As := [.int (iZ a), .int (iZ 0), .int (iZ 20)]) (rest := []) K isO_SJ rfl 3 (c_X7_checkRange X.1.2.1 K.2.2.2.2.2.2 _ _ _ μ a 0 20 ha (by omega)) gX7_checkNumbers_X7_checkRange rfl rfl rfl (by decide +kernel) ⟨(Nat.le_of_ble_eq_true rfl), (Nat.le_of_ble_eq_true rfl)⟩ rfl rfl (Nat.le_of_ble_eq_true rfl) dX7_checkNumbers_40 ⟨(Nat.le_of_ble_eq_true rfl), (Nat.le_of_ble_eq_true rfl)⟩ ?_
        refine v_aload_n 0 K dX7_checkNumbers_43 rfl ?_
        refine v_iload_n 3 K dX7_checkNumbers_44 rfl ?_
        refine v_iconst K dX7_checkNumbers_45 ?_
        refine v_sipush K dX7_checkNumbers_46 (by decide) ?_
        refine v_callVvr (c := 0) (As := [.int (iZ b), .int (iZ 0), .int (iZ 999)]) (rest := []) K isO_SJ rfl 3 (c_X7_checkRange X.1.2.1 K.2.2.2.2.2.2 _ _ _ μ b 0 999 hb (by omega)) gX7_checkNumbers_X7_checkRange rfl rfl rfl (by decide +kernel) ⟨(Nat.le_of_ble_eq_true rfl), (Nat.le_of_ble_eq_true rfl)⟩ rfl rfl (Nat.le_of_ble_eq_true rfl) dX7_checkNumbers_49 ⟨(Nat.le_of_ble_eq_true rfl), (Nat.le_of_ble_eq_true rfl)⟩ ?_
        exact hret _ rfl _ _ _ _ _ (Nat.le_of_ble_eq_true rfl) (Nat.le_of_ble_eq_true rfl) dX7_checkNumbers_52
      · refine v_iload_n 1 K dX7_checkNumbers_18 rfl ?_
        refine v_bipush K dX7_checkNumbers_19 (by decide) ?_
        refine v_icmp_eq 35 K dX7_checkNumbers_21 (by decide) (by omega) (by decide) (fun c21 => ?_) (fun c21 => (by exfalso; omega))
        refine v_aload_n 0 K dX7_checkNumbers_35 rfl ?_
        refine v_iload_n 2 K dX7_checkNumbers_36 rfl ?_
        refine v_iconst K dX7_checkNumbers_37 ?_
        refine v_bipush K dX7_checkNumbers_38 (by decide) ?_
        refine v_callVvr (c := 0) (As := [.int (iZ a), .int (iZ 0), .int (iZ 20)]) (rest := []) K isO_SJ rfl 3 (c_X7_checkRange X.1.2.1 K.2.2.2.2.2.2 _ _ _ μ a 0 20 ha (by omega)) gX7_checkNumbers_X7_checkRange rfl rfl rfl (by decide +kernel) ⟨(Nat.le_of_ble_eq_true rfl), (Nat.le_of_ble_eq_true rfl)⟩ rfl rfl (Nat.le_of_ble_eq_true rfl) dX7_checkNumbers_40 ⟨(Nat.le_of_ble_eq_true rfl), (Nat.le_of_ble_eq_true rfl)⟩ ?_
        refine v_aload_n 0 K dX7_checkNumbers_43 rfl ?_
        refine v_iload_n 3 K dX7_checkNumbers_44 rfl ?_
        refine v_iconst K dX7_checkNumbers_45 ?_
        refine v_sipush K dX7_checkNumbers_46 (by decide) ?_
        refine v_callVvr (c := 0) (As := [.int (iZ b), .int (iZ 0), .int (iZ 999)]) (rest := []) K isO_SJ rfl 3 (c_X7_checkRange X.1.2.1 K.2.2.2.2.2.2 _ _ _ μ b 0 999 hb (by omega)) gX7_checkNumbers_X7_checkRange rfl rfl rfl (by decide +kernel) ⟨(Nat.le_of_ble_eq_true rfl), (Nat.le_of_ble_eq_true rfl)⟩ rfl rfl (Nat.le_of_ble_eq_true rfl) dX7_checkNumbers_49 ⟨(Nat.le_of_ble_eq_true rfl), (Nat.le_of_ble_eq_true rfl)⟩ ?_
        exact hret _ rfl _ _ _ _ _ (Nat.le_of_ble_eq_true rfl) (Nat.le_of_ble_eq_true rfl) dX7_checkNumbers_52
theorem c_X7_checkNumbers (l : Launch) (hl : l.stackTraces = false) (D : va_G) (cy : Nat → ClassId) (ad : Nat → Nat) (μ : Mem) (k : Int) (a : Int) (b : Int) (hk : k = 99 ∨ k = 108 ∨ k = 113 ∨ k = 115) (ha : 0 ≤ a ∧ a ≤ 20) (hb : 0 ≤ b ∧ b ≤ 999) : cV l yX7_checkNumbers wsX7_checkNumbers ({ frames := 1, cells := 0, slots := 0, locals := 23 } : Room) D cy ad μ [.ref (ad 0), .int (iZ k), .int (iZ a), .int (iZ b)] (fun (ν : Mem) => ν = μ) :=
  m_void (av := (fun ad => [.ref (ad 0), .int (iZ k), .int (iZ a), .int (iZ b)])) hl (by decide) rfl rfl (Nat.le_of_ble_eq_true rfl) (fun X K hret => b_X7_checkNumbers k a b hk ha hb K hret)
theorem dX7_checkNumbers_24 : decode cX7_checkNumbers 24 = .ok (.new 95, 3) := by decide +kernel
theorem dX7_checkNumbers_27 : decode cX7_checkNumbers 27 = .ok (.dup, 1) := by decide +kernel
theorem dX7_checkNumbers_28 : decode cX7_checkNumbers 28 = .ok (.ldc_w 364, 3) := by decide +kernel
theorem dX7_checkNumbers_31 : decode cX7_checkNumbers 31 = .ok (.invokespecial 99, 3) := by decide +kernel
theorem dX7_checkNumbers_34 : decode cX7_checkNumbers 34 = .ok (.athrow, 1) := by decide +kernel
set_option maxHeartbeats 4000000 in
set_option maxRecDepth 100000 in
theorem b_X7_checkNumbersT {X : VC} {μ : Mem} (k : Int) (a : Int) (b : Int) (hk0 : 0 ≤ k ∧ k ≤ 65535) (hk : k ≠ 99 ∧ k ≠ 108 ∧ k ≠ 113 ∧ k ≠ 115) (K : vK X cX7_checkNumbers 4 RX7 wsX7_checkNumbers ({ frames := 6, cells := 1, slots := 6, locals := 82 } : Room)) (T : vT X μ "java/lang/IllegalArgumentException") : vW X 4 0 0 0 [(0, .ref (vAd X 0)), (1, .int (iZ k)), (2, .int (iZ a)), (3, .int (iZ b))] [] μ := by
  refine v_iload_n 1 K dX7_checkNumbers_0 rfl ?_
  refine v_bipush K dX7_checkNumbers_1 (by decide) ?_
  refine v_icmp_eq 35 K dX7_checkNumbers_3 (by decide) (by omega) (by decide) (fun c3 => (by exfalso; omega)) (fun c3 => ?_)
  refine v_iload_n 1 K dX7_checkNumbers_6 rfl ?_
  refine v_bipush K dX7_checkNumbers_7 (by decide) ?_
  refine v_icmp_eq 35 K dX7_checkNumbers_9 (by decide) (by omega) (by decide) (fun c9 => (by exfalso; omega)) (fun c9 => ?_)
  refine v_iload_n 1 K dX7_checkNumbers_12 rfl ?_
  refine v_bipush K dX7_checkNumbers_13 (by decide) ?_
  refine v_icmp_eq 35 K dX7_checkNumbers_15 (by decide) (by omega) (by decide) (fun c15 => (by exfalso; omega)) (fun c15 => ?_)
  refine v_iload_n 1 K dX7_checkNumbers_18 rfl ?_
  refine v_bipush K dX7_checkNumbers_19 (by decide) ?_
  refine v_icmp_eq 35 K dX7_checkNumbers_21 (by decide) (by omega) (by decide) (fun c21 => (by exfalso; omega)) (fun c21 => ?_)
  exact v_throwSW (own := RX7) (cls := "java/lang/IllegalArgumentException") (text := "no such kind") K T (by decide +kernel) (by decide +kernel) (List.mem_cons_of_mem _ (List.mem_append_left _ (List.mem_of_getElem? (i := 0) rfl))) (List.mem_cons_of_mem _ (List.mem_append_left _ (List.mem_of_getElem? (i := 1) rfl))) (fun w h => (List.mem_cons_of_mem _ (List.mem_append_right _ h))) (by decide +kernel) (by decide +kernel) (by decide +kernel) dX7_checkNumbers_24 dX7_checkNumbers_27 dX7_checkNumbers_28 dX7_checkNumbers_31 dX7_checkNumbers_34 (Nat.le_of_ble_eq_true rfl) (Nat.le_of_ble_eq_true rfl) (Nat.le_of_ble_eq_true rfl) (Nat.le_of_ble_eq_true rfl)
theorem c_X7_checkNumbersT (l : Launch) (hl : l.stackTraces = false) (D : va_G) (cy : Nat → ClassId) (ad : Nat → Nat) (μ : Mem) (k : Int) (a : Int) (b : Int) (hk0 : 0 ≤ k ∧ k ≤ 65535) (hk : k ≠ 99 ∧ k ≠ 108 ∧ k ≠ 113 ∧ k ≠ 115) : cTv l yX7_checkNumbers wsX7_checkNumbers ({ frames := 6, cells := 1, slots := 6, locals := 82 } : Room) D cy ad μ [.ref (ad 0), .int (iZ k), .int (iZ a), .int (iZ b)] "java/lang/IllegalArgumentException" :=
  m_thrv (av := (fun ad => [.ref (ad 0), .int (iZ k), .int (iZ a), .int (iZ b)])) hl (by decide) rfl rfl (Nat.le_of_ble_eq_true rfl) (fun X K T => b_X7_checkNumbersT k a b hk0 hk K T)
set_option maxHeartbeats 4000000 in
set_option maxRecDepth 100000 in
theorem b_X7_checkNumbersT2 {X : VC} {μ : Mem} (a : Int) (b : Int) (ha : 20 < a ∧ a ≤ 1000) (K : vK X cX7_checkNumbers 4 RX7 wsX7_checkNumbers ({ frames := 7, cells := 1, slots := 6, locals := 105 } : Room)) (T : vT X μ "java/lang/IllegalArgumentException") : vW X 4 0 0 0 [(0, .ref (vAd X 0)), (1, .int (iZ 99)), (2, .int (iZ a)), (3, .int (iZ b))] [] μ := by
  refine v_iload_n 1 K dX7_checkNumbers_0 rfl ?_
  refine v_bipush K dX7_checkNumbers_1 (by decide) ?_
  refine v_icmp_eq 35 K dX7_checkNumbers_3 (by decide) (by decide) (by decide) (fun c3 => ?_) (fun c3 => (by exfalso; omega))
  refine v_aload_n 0 K dX7_checkNumbers_35 rfl ?_
  refine v_iload_n 2 K dX7_checkNumbers_36 rfl ?_
  refine v_iconst K dX7_checkNumbers_37 ?_
  refine v_bipush K dX7_checkNumbers_38 (by decide) ?_
  exact v_callVTv (c := 0) (As := [.int (iZ a), .int (iZ 0), .int (iZ 20)]) (rest := []) K T isO_SJ rfl 3 (c_X7_checkRangeT X.1.2.1 K.2.2.2.2.2.2 _ _ _ μ a 0 20 (by omega) (by omega) (by omega) (by omega)) gX7_checkNumbers_X7_checkRange rfl rfl rfl (by decide +kernel) ⟨(Nat.le_of_ble_eq_true rfl), (Nat.le_of_ble_eq_true rfl)⟩ rfl rfl (Nat.le_of_ble_eq_true rfl) dX7_checkNumbers_40 ⟨(Nat.le_of_ble_eq_true rfl), (Nat.le_of_ble_eq_true rfl)⟩ (Nat.le_of_ble_eq_true rfl) (Nat.le_of_ble_eq_true rfl)
theorem c_X7_checkNumbersT2 (l : Launch) (hl : l.stackTraces = false) (D : va_G) (cy : Nat → ClassId) (ad : Nat → Nat) (μ : Mem) (a : Int) (b : Int) (ha : 20 < a ∧ a ≤ 1000) : cTv l yX7_checkNumbers wsX7_checkNumbers ({ frames := 7, cells := 1, slots := 6, locals := 105 } : Room) D cy ad μ [.ref (ad 0), .int (iZ 99), .int (iZ a), .int (iZ b)] "java/lang/IllegalArgumentException" :=
  m_thrv (av := (fun ad => [.ref (ad 0), .int (iZ 99), .int (iZ a), .int (iZ b)])) hl (by decide) rfl rfl (Nat.le_of_ble_eq_true rfl) (fun X K T => b_X7_checkNumbersT2 a b ha K T)
theorem dX7_checkBody_0 : decode cX7_checkBody 0 = .ok (.aload_n 0, 1) := by decide +kernel
theorem dX7_checkBody_1 : decode cX7_checkBody 1 = .ok (.iload_n 1, 1) := by decide +kernel
theorem dX7_checkBody_2 : decode cX7_checkBody 2 = .ok (.iconst 1, 1) := by decide +kernel
theorem dX7_checkBody_3 : decode cX7_checkBody 3 = .ok (.iconst 3, 1) := by decide +kernel
theorem dX7_checkBody_4 : decode cX7_checkBody 4 = .ok (.invokevirtual 174, 3) := by decide +kernel
set_option maxRecDepth 20000 in
theorem ggX7_checkBody_X7_checkRange : GoodIn wsX7_checkBody wsX7_checkRange := goodIn_ca (goodIn_r _ [5, 6, 7] (by decide +kernel) (by decide +kernel)) (goodIn_sub (fun _ h => List.mem_cons_of_mem _ (List.mem_append_right _ h)) (by decide +kernel))
set_option maxRecDepth 20000 in
theorem gX7_checkBody_X7_checkRange : GoodIn wsX7_checkBody (wsV RX7 174 RX7 yX7_checkRange wsX7_checkRange) := goodIn_app (goodIn_of _ (by decide +kernel)) ggX7_checkBody_X7_checkRange
theorem dX7_checkBody_7 : decode cX7_checkBody 7 = .ok (.aload_n 0, 1) := by decide +kernel
theorem dX7_checkBody_8 : decode cX7_checkBody 8 = .ok (.iload_n 2, 1) := by decide +kernel
theorem dX7_checkBody_9 : decode cX7_checkBody 9 = .ok (.iconst 0, 1) := by decide +kernel
theorem dX7_checkBody_10 : decode cX7_checkBody 10 = .ok (.bipush 9, 2) := by decide +kernel
theorem dX7_checkBody_12 : decode cX7_checkBody 12 = .ok (.invokevirtual 174, 3) := by decide +kernel
theorem dX7_checkBody_15 : decode cX7_checkBody 15 = .ok (.return_, 1) := by decide +kernel
set_option maxHeartbeats 4000000 in
set_option maxRecDepth 100000 in
theorem b_X7_checkBody {X : VC} {μ : Mem} (w : Int) (m : Int) (hw : 1 ≤ w ∧ w ≤ 3) (hm : 0 ≤ m ∧ m ≤ 9) (K : vK X cX7_checkBody 3 RX7 wsX7_checkBody ({ frames := 1, cells := 0, slots := 0, locals := 23 } : Room)) (hret : ∀ (ν : Mem), (fun (ν : Mem) => ν = μ) ν → ∀ n pc k1 k2 lv, k1 ≤ 0 → k2 ≤ 0 → decode cX7_checkBody pc = .ok (.return_, 1) → vW X n pc k1 k2 lv [] ν) : vW X 3 0 0 0 [(0, .ref (vAd X 0)), (1, .int (iZ w)), (2, .int (iZ m))] [] μ := by
  refine v_aload_n 0 K dX7_checkBody_0 rfl ?_
  refine v_iload_n 1 K dX7_checkBody_1 rfl ?_
  refine v_iconst K dX7_checkBody_2 ?_
  refine v_iconst K dX7_checkBody_3 ?_
  refine v_callVvr (c := 0) (As := [.int (iZ w), .int (iZ 1), .int (iZ 3)]) (rest := []) K isO_SJ rfl 3 (c_X7_checkRange X.1.2.1 K.2.2.2.2.2.2 _ _ _ μ w 1 3 hw (by omega)) gX7_checkBody_X7_checkRange rfl rfl rfl (by decide +kernel) ⟨(Nat.le_of_ble_eq_true rfl), (Nat.le_of_ble_eq_true rfl)⟩ rfl rfl (Nat.le_of_ble_eq_true rfl) dX7_checkBody_4 ⟨(Nat.le_of_ble_eq_true rfl), (Nat.le_of_ble_eq_true rfl)⟩ ?_
  refine v_aload_n 0 K dX7_checkBody_7 rfl ?_
  refine v_iload_n 2 K dX7_checkBody_8 rfl ?_
  refine v_iconst K dX7_checkBody_9 ?_
  refine v_bipush K dX7_checkBody_10 (by decide) ?_
  refine v_callVvr (c := 0) (As := [.int (iZ m), .int (iZ 0), .int (iZ 9)]) (rest := []) K isO_SJ rfl 3 (c_X7_checkRange X.1.2.1 K.2.2.2.2.2.2 _ _ _ μ m 0 9 hm (by omega)) gX7_checkBody_X7_checkRange rfl rfl rfl (by decide +kernel) ⟨(Nat.le_of_ble_eq_true rfl), (Nat.le_of_ble_eq_true rfl)⟩ rfl rfl (Nat.le_of_ble_eq_true rfl) dX7_checkBody_12 ⟨(Nat.le_of_ble_eq_true rfl), (Nat.le_of_ble_eq_true rfl)⟩ ?_
  exact hret _ rfl _ _ _ _ _ (Nat.le_of_ble_eq_true rfl) (Nat.le_of_ble_eq_true rfl) dX7_checkBody_15
theorem c_X7_checkBody (l : Launch) (hl : l.stackTraces = false) (D : va_G) (cy : Nat → ClassId) (ad : Nat → Nat) (μ : Mem) (w : Int) (m : Int) (hw : 1 ≤ w ∧ w ≤ 3) (hm : 0 ≤ m ∧ m ≤ 9) : cV l yX7_checkBody wsX7_checkBody ({ frames := 1, cells := 0, slots := 0, locals := 23 } : Room) D cy ad μ [.ref (ad 0), .int (iZ w), .int (iZ m)] (fun (ν : Mem) => ν = μ) :=
  m_void (av := (fun ad => [.ref (ad 0), .int (iZ w), .int (iZ m)])) hl (by decide) rfl rfl (Nat.le_of_ble_eq_true rfl) (fun X K hret => b_X7_checkBody w m hw hm K hret)
set_option maxHeartbeats 4000000 in
set_option maxRecDepth 100000 in
theorem b_X7_checkBodyT {X : VC} {μ : Mem} (w : Int) (m : Int) (hw : 3 < w ∧ w ≤ 1000) (K : vK X cX7_checkBody 3 RX7 wsX7_checkBody ({ frames := 7, cells := 1, slots := 6, locals := 105 } : Room)) (T : vT X μ "java/lang/IllegalArgumentException") : vW X 3 0 0 0 [(0, .ref (vAd X 0)), (1, .int (iZ w)), (2, .int (iZ m))] [] μ := by
  refine v_aload_n 0 K dX7_checkBody_0 rfl ?_
  refine v_iload_n 1 K dX7_checkBody_1 rfl ?_
  refine v_iconst K dX7_checkBody_2 ?_
  refine v_iconst K dX7_checkBody_3 ?_
  exact v_callVTv (c := 0) (As := [.int (iZ w), .int (iZ 1), .int (iZ 3)]) (rest := []) K T isO_SJ rfl 3 (c_X7_checkRangeT X.1.2.1 K.2.2.2.2.2.2 _ _ _ μ w 1 3 (by omega) (by omega) (by omega) (by omega)) gX7_checkBody_X7_checkRange rfl rfl rfl (by decide +kernel) ⟨(Nat.le_of_ble_eq_true rfl), (Nat.le_of_ble_eq_true rfl)⟩ rfl rfl (Nat.le_of_ble_eq_true rfl) dX7_checkBody_4 ⟨(Nat.le_of_ble_eq_true rfl), (Nat.le_of_ble_eq_true rfl)⟩ (Nat.le_of_ble_eq_true rfl) (Nat.le_of_ble_eq_true rfl)
theorem c_X7_checkBodyT (l : Launch) (hl : l.stackTraces = false) (D : va_G) (cy : Nat → ClassId) (ad : Nat → Nat) (μ : Mem) (w : Int) (m : Int) (hw : 3 < w ∧ w ≤ 1000) : cTv l yX7_checkBody wsX7_checkBody ({ frames := 7, cells := 1, slots := 6, locals := 105 } : Room) D cy ad μ [.ref (ad 0), .int (iZ w), .int (iZ m)] "java/lang/IllegalArgumentException" :=
  m_thrv (av := (fun ad => [.ref (ad 0), .int (iZ w), .int (iZ m)])) hl (by decide) rfl rfl (Nat.le_of_ble_eq_true rfl) (fun X K T => b_X7_checkBodyT w m hw K T)
theorem dX7_checkRoomForResource_0 : decode cX7_checkRoomForResource 0 = .ok (.aload_n 0, 1) := by decide +kernel
theorem dX7_checkRoomForResource_1 : decode cX7_checkRoomForResource 1 = .ok (.getfield 10, 3) := by decide +kernel
theorem dX7_checkRoomForResource_4 : decode cX7_checkRoomForResource 4 = .ok (.getfield 92, 3) := by decide +kernel
theorem dX7_checkRoomForResource_7 : decode cX7_checkRoomForResource 7 = .ok (.bipush 8, 2) := by decide +kernel
theorem dX7_checkRoomForResource_9 : decode cX7_checkRoomForResource 9 = .ok (.if_icmp .lt 14, 3) := by decide +kernel
theorem dX7_checkRoomForResource_23 : decode cX7_checkRoomForResource 23 = .ok (.return_, 1) := by decide +kernel
set_option maxHeartbeats 4000000 in
set_option maxRecDepth 100000 in
theorem b_X7_checkRoomForResource {X : VC} {μ : Mem} (hrc : 0 ≤ μ 1 2 ∧ μ 1 2 < 8) (K : vK X cX7_checkRoomForResource 1 RX7 wsX7_checkRoomForResource ({ frames := 0, cells := 0, slots := 0, locals := 0 } : Room)) (hret : ∀ (ν : Mem), (fun (ν : Mem) => ν = μ) ν → ∀ n pc k1 k2 lv, k1 ≤ 0 → k2 ≤ 0 → decode cX7_checkRoomForResource pc = .ok (.return_, 1) → vW X n pc k1 k2 lv [] ν) : vW X 1 0 0 0 [(0, .ref (vAd X 0))] [] μ := by
  refine v_aload_n 0 K dX7_checkRoomForResource_0 rfl ?_
  refine v_get (c := 0) (k := 0) (C := RX7) (T := TX7) (N := 7) (v := .ref (vAd X 1)) K isO_SJ rfl (fun _ h => (List.mem_cons_of_mem _ (List.mem_append_left _ (List.mem_append_left _ (List.mem_append_right _ h))))) (by decide) (List.mem_cons_of_mem _ (List.mem_append_left _ (List.mem_append_left _ (List.mem_append_left _ (List.mem_of_getElem? (i := 2) rfl))))) rfl dX7_checkRoomForResource_1 rfl ?_
  refine v_get (c := 1) (k := 2) (C := RX0) (T := TX0) (N := 4) (v := .int (iZ (μ 1 2))) K isO_Bd rfl (fun _ h => (List.mem_cons_of_mem _ (List.mem_append_left _ (List.mem_append_right _ h)))) (by decide) (List.mem_cons_of_mem _ (List.mem_append_left _ (List.mem_append_left _ (List.mem_append_left _ (List.mem_of_getElem? (i := 3) rfl))))) rfl dX7_checkRoomForResource_4 rfl ?_
  refine v_bipush K dX7_checkRoomForResource_7 (by decide) ?_
  refine v_icmp_lt 23 K dX7_checkRoomForResource_9 (by decide) (by omega) (by decide) (fun c9 => ?_) (fun c9 => (by exfalso; omega))
  exact hret _ rfl _ _ _ _ _ (Nat.le_of_ble_eq_true rfl) (Nat.le_of_ble_eq_true rfl) dX7_checkRoomForResource_23
theorem c_X7_checkRoomForResource (l : Launch) (hl : l.stackTraces = false) (D : va_G) (cy : Nat → ClassId) (ad : Nat → Nat) (μ : Mem) (hrc : 0 ≤ μ 1 2 ∧ μ 1 2 < 8) : cV l yX7_checkRoomForResource wsX7_checkRoomForResource ({ frames := 0, cells := 0, slots := 0, locals := 0 } : Room) D cy ad μ [.ref (ad 0)] (fun (ν : Mem) => ν = μ) :=
  m_void (av := (fun ad => [.ref (ad 0)])) hl (by decide) rfl rfl (Nat.le_of_ble_eq_true rfl) (fun X K hret => b_X7_checkRoomForResource hrc K hret)
theorem dX7_checkRoomForPlayer_0 : decode cX7_checkRoomForPlayer 0 = .ok (.aload_n 0, 1) := by decide +kernel
theorem dX7_checkRoomForPlayer_1 : decode cX7_checkRoomForPlayer 1 = .ok (.getfield 10, 3) := by decide +kernel
theorem dX7_checkRoomForPlayer_4 : decode cX7_checkRoomForPlayer 4 = .ok (.getfield 281, 3) := by decide +kernel
theorem dX7_checkRoomForPlayer_7 : decode cX7_checkRoomForPlayer 7 = .ok (.bipush 6, 2) := by decide +kernel
theorem dX7_checkRoomForPlayer_9 : decode cX7_checkRoomForPlayer 9 = .ok (.if_icmp .lt 14, 3) := by decide +kernel
theorem dX7_checkRoomForPlayer_23 : decode cX7_checkRoomForPlayer 23 = .ok (.return_, 1) := by decide +kernel
set_option maxHeartbeats 4000000 in
set_option maxRecDepth 100000 in
theorem b_X7_checkRoomForPlayer {X : VC} {μ : Mem} (hpc : 0 ≤ μ 1 3 ∧ μ 1 3 < 6) (K : vK X cX7_checkRoomForPlayer 1 RX7 wsX7_checkRoomForPlayer ({ frames := 0, cells := 0, slots := 0, locals := 0 } : Room)) (hret : ∀ (ν : Mem), (fun (ν : Mem) => ν = μ) ν → ∀ n pc k1 k2 lv, k1 ≤ 0 → k2 ≤ 0 → decode cX7_checkRoomForPlayer pc = .ok (.return_, 1) → vW X n pc k1 k2 lv [] ν) : vW X 1 0 0 0 [(0, .ref (vAd X 0))] [] μ := by
  refine v_aload_n 0 K dX7_checkRoomForPlayer_0 rfl ?_
  refine v_get (c := 0) (k := 0) (C := RX7) (T := TX7) (N := 7) (v := .ref (vAd X 1)) K isO_SJ rfl (fun _ h => (List.mem_cons_of_mem _ (List.mem_append_left _ (List.mem_append_left _ (List.mem_append_right _ h))))) (by decide) (List.mem_cons_of_mem _ (List.mem_append_left _ (List.mem_append_left _ (List.mem_append_left _ (List.mem_of_getElem? (i := 2) rfl))))) rfl dX7_checkRoomForPlayer_1 rfl ?_
  refine v_get (c := 1) (k := 3) (C := RX0) (T := TX0) (N := 4) (v := .int (iZ (μ 1 3))) K isO_Bd rfl (fun _ h => (List.mem_cons_of_mem _ (List.mem_append_left _ (List.mem_append_right _ h)))) (by decide) (List.mem_cons_of_mem _ (List.mem_append_left _ (List.mem_append_left _ (List.mem_append_left _ (List.mem_of_getElem? (i := 3) rfl))))) rfl dX7_checkRoomForPlayer_4 rfl ?_
  refine v_bipush K dX7_checkRoomForPlayer_7 (by decide) ?_
  refine v_icmp_lt 23 K dX7_checkRoomForPlayer_9 (by decide) (by omega) (by decide) (fun c9 => ?_) (fun c9 => (by exfalso; omega))
  exact hret _ rfl _ _ _ _ _ (Nat.le_of_ble_eq_true rfl) (Nat.le_of_ble_eq_true rfl) dX7_checkRoomForPlayer_23
theorem c_X7_checkRoomForPlayer (l : Launch) (hl : l.stackTraces = false) (D : va_G) (cy : Nat → ClassId) (ad : Nat → Nat) (μ : Mem) (hpc : 0 ≤ μ 1 3 ∧ μ 1 3 < 6) : cV l yX7_checkRoomForPlayer wsX7_checkRoomForPlayer ({ frames := 0, cells := 0, slots := 0, locals := 0 } : Room) D cy ad μ [.ref (ad 0)] (fun (ν : Mem) => ν = μ) :=
  m_void (av := (fun ad => [.ref (ad 0)])) hl (by decide) rfl rfl (Nat.le_of_ble_eq_true rfl) (fun X K hret => b_X7_checkRoomForPlayer hpc K hret)
theorem dX7_checkResource_0 : decode cX7_checkResource 0 = .ok (.iload_n 1, 1) := by decide +kernel
theorem dX7_checkResource_1 : decode cX7_checkResource 1 = .ok (.ifCond .lt 14, 3) := by decide +kernel
theorem dX7_checkResource_4 : decode cX7_checkResource 4 = .ok (.iload_n 1, 1) := by decide +kernel
theorem dX7_checkResource_5 : decode cX7_checkResource 5 = .ok (.aload_n 0, 1) := by decide +kernel
theorem dX7_checkResource_6 : decode cX7_checkResource 6 = .ok (.getfield 10, 3) := by decide +kernel
theorem dX7_checkResource_9 : decode cX7_checkResource 9 = .ok (.getfield 92, 3) := by decide +kernel
theorem dX7_checkResource_12 : decode cX7_checkResource 12 = .ok (.if_icmp .lt 14, 3) := by decide +kernel
theorem dX7_checkResource_26 : decode cX7_checkResource 26 = .ok (.return_, 1) := by decide +kernel
set_option maxHeartbeats 4000000 in
set_option maxRecDepth 100000 in
theorem b_X7_checkResource {X : VC} {μ : Mem} (n : Int) (hrc : 0 ≤ μ 1 2 ∧ μ 1 2 ≤ 8) (h : 0 ≤ n ∧ n < μ 1 2) (K : vK X cX7_checkResource 2 RX7 wsX7_checkResource ({ frames := 0, cells := 0, slots := 0, locals := 0 } : Room)) (hret : ∀ (ν : Mem), (fun (ν : Mem) => ν = μ) ν → ∀ n pc k1 k2 lv, k1 ≤ 0 → k2 ≤ 0 → decode cX7_checkResource pc = .ok (.return_, 1) → vW X n pc k1 k2 lv [] ν) : vW X 2 0 0 0 [(0, .ref (vAd X 0)), (1, .int (iZ n))] [] μ := by
  refine v_iload_n 1 K dX7_checkResource_0 rfl ?_
  refine v_if_lt 15 K dX7_checkResource_1 (by decide) (by omega) (fun c1 => (by exfalso; omega)) (fun c1 => ?_)
  refine v_iload_n 1 K dX7_checkResource_4 rfl ?_
  refine v_aload_n 0 K dX7_checkResource_5 rfl ?_
  refine v_get (c := 0) (k := 0) (C := RX7) (T := TX7) (N := 7) (v := .ref (vAd X 1)) K isO_SJ rfl (fun _ h => (List.mem_cons_of_mem _ (List.mem_append_left _ (List.mem_append_left _ (List.mem_append_right _ h))))) (by decide) (List.mem_cons_of_mem _ (List.mem_append_left _ (List.mem_append_left _ (List.mem_append_left _ (List.mem_of_getElem? (i := 2) rfl))))) rfl dX7_checkResource_6 rfl ?_
  refine v_get (c := 1) (k := 2) (C := RX0) (T := TX0) (N := 4) (v := .int (iZ (μ 1 2))) K isO_Bd rfl (fun _ h => (List.mem_cons_of_mem _ (List.mem_append_left _ (List.mem_append_right _ h)))) (by decide) (List.mem_cons_of_mem _ (List.mem_append_left _ (List.mem_append_left _ (List.mem_append_left _ (List.mem_of_getElem? (i := 3) rfl))))) rfl dX7_checkResource_9 rfl ?_
  refine v_icmp_lt 26 K dX7_checkResource_12 (by decide) (by omega) (by omega) (fun c12 => ?_) (fun c12 => (by exfalso; omega))
  exact hret _ rfl _ _ _ _ _ (Nat.le_of_ble_eq_true rfl) (Nat.le_of_ble_eq_true rfl) dX7_checkResource_26
theorem c_X7_checkResource (l : Launch) (hl : l.stackTraces = false) (D : va_G) (cy : Nat → ClassId) (ad : Nat → Nat) (μ : Mem) (n : Int) (hrc : 0 ≤ μ 1 2 ∧ μ 1 2 ≤ 8) (h : 0 ≤ n ∧ n < μ 1 2) : cV l yX7_checkResource wsX7_checkResource ({ frames := 0, cells := 0, slots := 0, locals := 0 } : Room) D cy ad μ [.ref (ad 0), .int (iZ n)] (fun (ν : Mem) => ν = μ) :=
  m_void (av := (fun ad => [.ref (ad 0), .int (iZ n)])) hl (by decide) rfl rfl (Nat.le_of_ble_eq_true rfl) (fun X K hret => b_X7_checkResource n hrc h K hret)
theorem dX7_checkResource_15 : decode cX7_checkResource 15 = .ok (.new 372, 3) := by decide +kernel
theorem dX7_checkResource_18 : decode cX7_checkResource 18 = .ok (.dup, 1) := by decide +kernel
theorem dX7_checkResource_19 : decode cX7_checkResource 19 = .ok (.ldc_w 374, 3) := by decide +kernel
theorem dX7_checkResource_22 : decode cX7_checkResource 22 = .ok (.invokespecial 376, 3) := by decide +kernel
theorem dX7_checkResource_25 : decode cX7_checkResource 25 = .ok (.athrow, 1) := by decide +kernel
set_option maxHeartbeats 4000000 in
set_option maxRecDepth 100000 in
theorem b_X7_checkResourceT {X : VC} {μ : Mem} (n : Int) (hrc : 0 ≤ μ 1 2 ∧ μ 1 2 ≤ 8) (h : μ 1 2 ≤ n ∧ n ≤ 1000) (K : vK X cX7_checkResource 2 RX7 wsX7_checkResource ({ frames := 6, cells := 1, slots := 6, locals := 82 } : Room)) (T : vT X μ "java/lang/IndexOutOfBoundsException") : vW X 2 0 0 0 [(0, .ref (vAd X 0)), (1, .int (iZ n))] [] μ := by
  refine v_iload_n 1 K dX7_checkResource_0 rfl ?_
  refine v_if_lt 15 K dX7_checkResource_1 (by decide) (by omega) (fun c1 => (by exfalso; omega)) (fun c1 => ?_)
  refine v_iload_n 1 K dX7_checkResource_4 rfl ?_
  refine v_aload_n 0 K dX7_checkResource_5 rfl ?_
  refine v_get (c := 0) (k := 0) (C := RX7) (T := TX7) (N := 7) (v := .ref (vAd X 1)) K isO_SJ rfl (fun _ h => (List.mem_cons_of_mem _ (List.mem_append_left _ (List.mem_append_left _ (List.mem_append_right _ h))))) (by decide) (List.mem_cons_of_mem _ (List.mem_append_left _ (List.mem_append_left _ (List.mem_append_left _ (List.mem_of_getElem? (i := 2) rfl))))) rfl dX7_checkResource_6 rfl ?_
  refine v_get (c := 1) (k := 2) (C := RX0) (T := TX0) (N := 4) (v := .int (iZ (μ 1 2))) K isO_Bd rfl (fun _ h => (List.mem_cons_of_mem _ (List.mem_append_left _ (List.mem_append_right _ h)))) (by decide) (List.mem_cons_of_mem _ (List.mem_append_left _ (List.mem_append_left _ (List.mem_append_left _ (List.mem_of_getElem? (i := 3) rfl))))) rfl dX7_checkResource_9 rfl ?_
  refine v_icmp_lt 26 K dX7_checkResource_12 (by decide) (by omega) (by omega) (fun c12 => (by exfalso; omega)) (fun c12 => ?_)
  exact v_throwSW (own := RX7) (cls := "java/lang/IndexOutOfBoundsException") (text := "no such resource") K T (by decide +kernel) (by decide +kernel) (List.mem_cons_of_mem _ (List.mem_append_left _ (List.mem_append_left _ (List.mem_append_left _ (List.mem_of_getElem? (i := 0) rfl))))) (List.mem_cons_of_mem _ (List.mem_append_left _ (List.mem_append_left _ (List.mem_append_left _ (List.mem_of_getElem? (i := 1) rfl))))) (fun w h => (List.mem_cons_of_mem _ (List.mem_append_right _ h))) (by decide +kernel) (by decide +kernel) (by decide +kernel) dX7_checkResource_15 dX7_checkResource_18 dX7_checkResource_19 dX7_checkResource_22 dX7_checkResource_25 (Nat.le_of_ble_eq_true rfl) (Nat.le_of_ble_eq_true rfl) (Nat.le_of_ble_eq_true rfl) (Nat.le_of_ble_eq_true rfl)
theorem c_X7_checkResourceT (l : Launch) (hl : l.stackTraces = false) (D : va_G) (cy : Nat → ClassId) (ad : Nat → Nat) (μ : Mem) (n : Int) (hrc : 0 ≤ μ 1 2 ∧ μ 1 2 ≤ 8) (h : μ 1 2 ≤ n ∧ n ≤ 1000) : cTv l yX7_checkResource wsX7_checkResource ({ frames := 6, cells := 1, slots := 6, locals := 82 } : Room) D cy ad μ [.ref (ad 0), .int (iZ n)] "java/lang/IndexOutOfBoundsException" :=
  m_thrv (av := (fun ad => [.ref (ad 0), .int (iZ n)])) hl (by decide) rfl rfl (Nat.le_of_ble_eq_true rfl) (fun X K T => b_X7_checkResourceT n hrc h K T)
theorem dX7_checkPlayer_0 : decode cX7_checkPlayer 0 = .ok (.iload_n 1, 1) := by decide +kernel
theorem dX7_checkPlayer_1 : decode cX7_checkPlayer 1 = .ok (.ifCond .lt 14, 3) := by decide +kernel
theorem dX7_checkPlayer_4 : decode cX7_checkPlayer 4 = .ok (.iload_n 1, 1) := by decide +kernel
theorem dX7_checkPlayer_5 : decode cX7_checkPlayer 5 = .ok (.aload_n 0, 1) := by decide +kernel
theorem dX7_checkPlayer_6 : decode cX7_checkPlayer 6 = .ok (.getfield 10, 3) := by decide +kernel
theorem dX7_checkPlayer_9 : decode cX7_checkPlayer 9 = .ok (.getfield 281, 3) := by decide +kernel
theorem dX7_checkPlayer_12 : decode cX7_checkPlayer 12 = .ok (.if_icmp .lt 14, 3) := by decide +kernel
theorem dX7_checkPlayer_26 : decode cX7_checkPlayer 26 = .ok (.return_, 1) := by decide +kernel
set_option maxHeartbeats 4000000 in
set_option maxRecDepth 100000 in
theorem b_X7_checkPlayer {X : VC} {μ : Mem} (n : Int) (hpc : 0 ≤ μ 1 3 ∧ μ 1 3 ≤ 6) (h : 0 ≤ n ∧ n < μ 1 3) (K : vK X cX7_checkPlayer 2 RX7 wsX7_checkPlayer ({ frames := 0, cells := 0, slots := 0, locals := 0 } : Room)) (hret : ∀ (ν : Mem), (fun (ν : Mem) => ν = μ) ν → ∀ n pc k1 k2 lv, k1 ≤ 0 → k2 ≤ 0 → decode cX7_checkPlayer pc = .ok (.return_, 1) → vW X n pc k1 k2 lv [] ν) : vW X 2 0 0 0 [(0, .ref (vAd X 0)), (1, .int (iZ n))] [] μ := by
  refine v_iload_n 1 K dX7_checkPlayer_0 rfl ?_
  refine v_if_lt 15 K dX7_checkPlayer_1 (by decide) (by omega) (fun c1 => (by exfalso; omega)) (fun c1 => ?_)
  refine v_iload_n 1 K dX7_checkPlayer_4 rfl ?_
  refine v_aload_n 0 K dX7_checkPlayer_5 rfl ?_
  refine v_get (c := 0) (k := 0) (C := RX7) (T := TX7) (N := 7) (v := .ref (vAd X 1)) K isO_SJ rfl (fun _ h => (List.mem_cons_of_mem _ (List.mem_append_left _ (List.mem_append_left _ (List.mem_append_right _ h))))) (by decide) (List.mem_cons_of_mem _ (List.mem_append_left _ (List.mem_append_left _ (List.mem_append_left _ (List.mem_of_getElem? (i := 2) rfl))))) rfl dX7_checkPlayer_6 rfl ?_
  refine v_get (c := 1) (k := 3) (C := RX0) (T := TX0) (N := 4) (v := .int (iZ (μ 1 3))) K isO_Bd rfl (fun _ h => (List.mem_cons_of_mem _ (List.mem_append_left _ (List.mem_append_right _ h)))) (by decide) (List.mem_cons_of_mem _ (List.mem_append_left _ (List.mem_append_left _ (List.mem_append_left _ (List.mem_of_getElem? (i := 3) rfl))))) rfl dX7_checkPlayer_9 rfl ?_
  refine v_icmp_lt 26 K dX7_checkPlayer_12 (by decide) (by omega) (by omega) (fun c12 => ?_) (fun c12 => (by exfalso; omega))
  exact hret _ rfl _ _ _ _ _ (Nat.le_of_ble_eq_true rfl) (Nat.le_of_ble_eq_true rfl) dX7_checkPlayer_26
theorem c_X7_checkPlayer (l : Launch) (hl : l.stackTraces = false) (D : va_G) (cy : Nat → ClassId) (ad : Nat → Nat) (μ : Mem) (n : Int) (hpc : 0 ≤ μ 1 3 ∧ μ 1 3 ≤ 6) (h : 0 ≤ n ∧ n < μ 1 3) : cV l yX7_checkPlayer wsX7_checkPlayer ({ frames := 0, cells := 0, slots := 0, locals := 0 } : Room) D cy ad μ [.ref (ad 0), .int (iZ n)] (fun (ν : Mem) => ν = μ) :=
  m_void (av := (fun ad => [.ref (ad 0), .int (iZ n)])) hl (by decide) rfl rfl (Nat.le_of_ble_eq_true rfl) (fun X K hret => b_X7_checkPlayer n hpc h K hret)
theorem dX7_checkPlayer_15 : decode cX7_checkPlayer 15 = .ok (.new 372, 3) := by decide +kernel
theorem dX7_checkPlayer_18 : decode cX7_checkPlayer 18 = .ok (.dup, 1) := by decide +kernel
theorem dX7_checkPlayer_19 : decode cX7_checkPlayer 19 = .ok (.ldc_w 377, 3) := by decide +kernel
theorem dX7_checkPlayer_22 : decode cX7_checkPlayer 22 = .ok (.invokespecial 376, 3) := by decide +kernel
theorem dX7_checkPlayer_25 : decode cX7_checkPlayer 25 = .ok (.athrow, 1) := by decide +kernel
set_option maxHeartbeats 4000000 in
set_option maxRecDepth 100000 in
theorem b_X7_checkPlayerT {X : VC} {μ : Mem} (n : Int) (hpc : 0 ≤ μ 1 3 ∧ μ 1 3 ≤ 6) (h : μ 1 3 ≤ n ∧ n ≤ 1000) (K : vK X cX7_checkPlayer 2 RX7 wsX7_checkPlayer ({ frames := 6, cells := 1, slots := 6, locals := 82 } : Room)) (T : vT X μ "java/lang/IndexOutOfBoundsException") : vW X 2 0 0 0 [(0, .ref (vAd X 0)), (1, .int (iZ n))] [] μ := by
  refine v_iload_n 1 K dX7_checkPlayer_0 rfl ?_
  refine v_if_lt 15 K dX7_checkPlayer_1 (by decide) (by omega) (fun c1 => (by exfalso; omega)) (fun c1 => ?_)
  refine v_iload_n 1 K dX7_checkPlayer_4 rfl ?_
  refine v_aload_n 0 K dX7_checkPlayer_5 rfl ?_
  refine v_get (c := 0) (k := 0) (C := RX7) (T := TX7) (N := 7) (v := .ref (vAd X 1)) K isO_SJ rfl (fun _ h => (List.mem_cons_of_mem _ (List.mem_append_left _ (List.mem_append_left _ (List.mem_append_right _ h))))) (by decide) (List.mem_cons_of_mem _ (List.mem_append_left _ (List.mem_append_left _ (List.mem_append_left _ (List.mem_of_getElem? (i := 2) rfl))))) rfl dX7_checkPlayer_6 rfl ?_
  refine v_get (c := 1) (k := 3) (C := RX0) (T := TX0) (N := 4) (v := .int (iZ (μ 1 3))) K isO_Bd rfl (fun _ h => (List.mem_cons_of_mem _ (List.mem_append_left _ (List.mem_append_right _ h)))) (by decide) (List.mem_cons_of_mem _ (List.mem_append_left _ (List.mem_append_left _ (List.mem_append_left _ (List.mem_of_getElem? (i := 3) rfl))))) rfl dX7_checkPlayer_9 rfl ?_
  refine v_icmp_lt 26 K dX7_checkPlayer_12 (by decide) (by omega) (by omega) (fun c12 => (by exfalso; omega)) (fun c12 => ?_)
  exact v_throwSW (own := RX7) (cls := "java/lang/IndexOutOfBoundsException") (text := "no such player") K T (by decide +kernel) (by decide +kernel) (List.mem_cons_of_mem _ (List.mem_append_left _ (List.mem_append_left _ (List.mem_append_left _ (List.mem_of_getElem? (i := 0) rfl))))) (List.mem_cons_of_mem _ (List.mem_append_left _ (List.mem_append_left _ (List.mem_append_left _ (List.mem_of_getElem? (i := 1) rfl))))) (fun w h => (List.mem_cons_of_mem _ (List.mem_append_right _ h))) (by decide +kernel) (by decide +kernel) (by decide +kernel) dX7_checkPlayer_15 dX7_checkPlayer_18 dX7_checkPlayer_19 dX7_checkPlayer_22 dX7_checkPlayer_25 (Nat.le_of_ble_eq_true rfl) (Nat.le_of_ble_eq_true rfl) (Nat.le_of_ble_eq_true rfl) (Nat.le_of_ble_eq_true rfl)
theorem c_X7_checkPlayerT (l : Launch) (hl : l.stackTraces = false) (D : va_G) (cy : Nat → ClassId) (ad : Nat → Nat) (μ : Mem) (n : Int) (hpc : 0 ≤ μ 1 3 ∧ μ 1 3 ≤ 6) (h : μ 1 3 ≤ n ∧ n ≤ 1000) : cTv l yX7_checkPlayer wsX7_checkPlayer ({ frames := 6, cells := 1, slots := 6, locals := 82 } : Room) D cy ad μ [.ref (ad 0), .int (iZ n)] "java/lang/IndexOutOfBoundsException" :=
  m_thrv (av := (fun ad => [.ref (ad 0), .int (iZ n)])) hl (by decide) rfl rfl (Nat.le_of_ble_eq_true rfl) (fun X K T => b_X7_checkPlayerT n hpc h K T)
theorem dX7_checkWay_0 : decode cX7_checkWay 0 = .ok (.aload_n 0, 1) := by decide +kernel
theorem dX7_checkWay_1 : decode cX7_checkWay 1 = .ok (.iload_n 1, 1) := by decide +kernel
theorem dX7_checkWay_2 : decode cX7_checkWay 2 = .ok (.invokevirtual 88, 3) := by decide +kernel
set_option maxRecDepth 20000 in
theorem ggX7_checkWay_X7_checkPlayer : GoodIn wsX7_checkWay wsX7_checkPlayer := goodIn_ca (goodIn_r _ [10, 1, 2, 3, 11, 12, 13, 14, 15, 16, 17, 18, 19, 20, 21, 22] (by decide +kernel) (by decide +kernel)) (goodIn_sub (fun _ h => List.mem_cons_of_mem _ (List.mem_append_right _ h)) (by decide +kernel))
set_option maxRecDepth 20000 in
theorem gX7_checkWay_X7_checkPlayer : GoodIn wsX7_checkWay (wsV RX7 88 RX7 yX7_checkPlayer wsX7_checkPlayer) := goodIn_app (goodIn_of _ (by decide +kernel)) ggX7_checkWay_X7_checkPlayer
theorem dX7_checkWay_5 : decode cX7_checkWay 5 = .ok (.iload_n 2, 1) := by decide +kernel
theorem dX7_checkWay_6 : decode cX7_checkWay 6 = .ok (.ifCond .lt 19, 3) := by decide +kernel
theorem dX7_checkWay_9 : decode cX7_checkWay 9 = .ok (.iload_n 2, 1) := by decide +kernel
theorem dX7_checkWay_10 : decode cX7_checkWay 10 = .ok (.aload_n 0, 1) := by decide +kernel
theorem dX7_checkWay_11 : decode cX7_checkWay 11 = .ok (.getfield 10, 3) := by decide +kernel
theorem dX7_checkWay_14 : decode cX7_checkWay 14 = .ok (.getfield 105, 3) := by decide +kernel
theorem dX7_checkWay_17 : decode cX7_checkWay 17 = .ok (.iload_n 1, 1) := by decide +kernel
theorem dX7_checkWay_18 : decode cX7_checkWay 18 = .ok (.aaload, 1) := by decide +kernel
theorem dX7_checkWay_19 : decode cX7_checkWay 19 = .ok (.getfield 120, 3) := by decide +kernel
theorem dX7_checkWay_22 : decode cX7_checkWay 22 = .ok (.if_icmp .lt 14, 3) := by decide +kernel
theorem dX7_checkWay_36 : decode cX7_checkWay 36 = .ok (.return_, 1) := by decide +kernel
set_option maxHeartbeats 4000000 in
set_option maxRecDepth 100000 in
theorem b_X7_checkWay {X : VC} {μ : Mem} (p : Nat) (w : Int) (hW : WF μ) (hp : p < pcn μ) (hw : 0 ≤ w ∧ w < μ (37 + p) 3) (K : vK X cX7_checkWay 3 RX7 wsX7_checkWay ({ frames := 1, cells := 0, slots := 0, locals := 21 } : Room)) (hret : ∀ (ν : Mem), (fun (ν : Mem) => ν = μ) ν → ∀ n pc k1 k2 lv, k1 ≤ 0 → k2 ≤ 0 → decode cX7_checkWay pc = .ok (.return_, 1) → vW X n pc k1 k2 lv [] ν) : vW X 3 0 0 0 [(0, .ref (vAd X 0)), (1, .int (iZ (p : Int))), (2, .int (iZ w))] [] μ := by
  have hpc := hW.pc6
  have hpl := hW.pl (p := p) (by omega)
  refine v_aload_n 0 K dX7_checkWay_0 rfl ?_
  refine v_iload_n 1 K dX7_checkWay_1 rfl ?_
  refine v_callVvr (c := 0) (As := [.int (iZ (p : Int))]) (rest := []) K isO_SJ rfl 1 (c_X7_checkPlayer X.1.2.1 K.2.2.2.2.2.2 _ _ _ μ (p : Int) (by omega) (by omega)) gX7_checkWay_X7_checkPlayer rfl rfl rfl (by decide +kernel) ⟨(Nat.le_of_ble_eq_true rfl), (Nat.le_of_ble_eq_true rfl)⟩ rfl rfl (Nat.le_of_ble_eq_true rfl) dX7_checkWay_2 ⟨(Nat.le_of_ble_eq_true rfl), (Nat.le_of_ble_eq_true rfl)⟩ ?_
  refine v_iload_n 2 K dX7_checkWay_5 rfl ?_
  refine v_if_lt 25 K dX7_checkWay_6 (by decide) (by omega) (fun c6 => (by exfalso; omega)) (fun c6 => ?_)
  refine v_iload_n 2 K dX7_checkWay_9 rfl ?_
  refine v_aload_n 0 K dX7_checkWay_10 rfl ?_
  refine v_get (c := 0) (k := 0) (C := RX7) (T := TX7) (N := 7) (v := .ref (vAd X 1)) K isO_SJ rfl (fun _ h => (List.mem_cons_of_mem _ (List.mem_append_left _ (List.mem_append_left _ (List.mem_append_left _ (List.mem_append_right _ h)))))) (by decide) (List.mem_cons_of_mem _ (List.mem_append_left _ (List.mem_append_left _ (List.mem_append_left _ (List.mem_append_left _ (List.mem_of_getElem? (i := 2) rfl)))))) rfl dX7_checkWay_11 rfl ?_
  refine v_get (c := 1) (k := 1) (C := RX0) (T := TX0) (N := 4) (v := .ref (vAd X 20)) K isO_Bd rfl (fun _ h => (List.mem_cons_of_mem _ (List.mem_append_left _ (List.mem_append_left _ (List.mem_append_right _ h))))) (by decide) (List.mem_cons_of_mem _ (List.mem_append_left _ (List.mem_append_left _ (List.mem_append_left _ (List.mem_append_left _ (List.mem_of_getElem? (i := 3) rfl)))))) rfl dX7_checkWay_14 rfl ?_
  refine v_iload_n 1 K dX7_checkWay_17 rfl ?_
  refine v_aald (c := 20) p K isQ_Py rfl rfl (by omega) dX7_checkWay_18 ?_
  refine v_get (c := (37 + p)) (k := 3) (C := RX4) (T := TX4) (N := 6) (v := .int (iZ (μ (37 + p) 3))) K (isO_Py (p := p) (by omega)) rfl (fun _ h => (List.mem_cons_of_mem _ (List.mem_append_left _ (List.mem_append_right _ h)))) (by decide) (List.mem_cons_of_mem _ (List.mem_append_left _ (List.mem_append_left _ (List.mem_append_left _ (List.mem_append_left _ (List.mem_of_getElem? (i := 4) rfl)))))) rfl dX7_checkWay_19 rfl ?_
  refine v_icmp_lt 36 K dX7_checkWay_22 (by decide) (by omega) (by omega) (fun c22 => ?_) (fun c22 => (by exfalso; omega))
  exact hret _ rfl _ _ _ _ _ (Nat.le_of_ble_eq_true rfl) (Nat.le_of_ble_eq_true rfl) dX7_checkWay_36
theorem c_X7_checkWay (l : Launch) (hl : l.stackTraces = false) (D : va_G) (cy : Nat → ClassId) (ad : Nat → Nat) (μ : Mem) (p : Nat) (w : Int) (hW : WF μ) (hp : p < pcn μ) (hw : 0 ≤ w ∧ w < μ (37 + p) 3) : cV l yX7_checkWay wsX7_checkWay ({ frames := 1, cells := 0, slots := 0, locals := 21 } : Room) D cy ad μ [.ref (ad 0), .int (iZ (p : Int)), .int (iZ w)] (fun (ν : Mem) => ν = μ) :=
  m_void (av := (fun ad => [.ref (ad 0), .int (iZ (p : Int)), .int (iZ w)])) hl (by decide) rfl rfl (Nat.le_of_ble_eq_true rfl) (fun X K hret => b_X7_checkWay p w hW hp hw K hret)
theorem dX7_checkWay_25 : decode cX7_checkWay 25 = .ok (.new 372, 3) := by decide +kernel
theorem dX7_checkWay_28 : decode cX7_checkWay 28 = .ok (.dup, 1) := by decide +kernel
theorem dX7_checkWay_29 : decode cX7_checkWay 29 = .ok (.ldc_w 379, 3) := by decide +kernel
theorem dX7_checkWay_32 : decode cX7_checkWay 32 = .ok (.invokespecial 376, 3) := by decide +kernel
theorem dX7_checkWay_35 : decode cX7_checkWay 35 = .ok (.athrow, 1) := by decide +kernel
set_option maxHeartbeats 4000000 in
set_option maxRecDepth 100000 in
theorem b_X7_checkWayT {X : VC} {μ : Mem} (p : Nat) (w : Int) (hW : WF μ) (hp : p < pcn μ) (hw : μ (37 + p) 3 ≤ w ∧ w ≤ 1000) (K : vK X cX7_checkWay 3 RX7 wsX7_checkWay ({ frames := 6, cells := 1, slots := 6, locals := 82 } : Room)) (T : vT X μ "java/lang/IndexOutOfBoundsException") : vW X 3 0 0 0 [(0, .ref (vAd X 0)), (1, .int (iZ (p : Int))), (2, .int (iZ w))] [] μ := by
  have hpc := hW.pc6
  have hpl := hW.pl (p := p) (by omega)
  refine v_aload_n 0 K dX7_checkWay_0 rfl ?_
  refine v_iload_n 1 K dX7_checkWay_1 rfl ?_
  refine v_callVvr (c := 0) (As := [.int (iZ (p : Int))]) (rest := []) K isO_SJ rfl 1 (c_X7_checkPlayer X.1.2.1 K.2.2.2.2.2.2 _ _ _ μ (p : Int) (by omega) (by omega)) gX7_checkWay_X7_checkPlayer rfl rfl rfl (by decide +kernel) ⟨(Nat.le_of_ble_eq_true rfl), (Nat.le_of_ble_eq_true rfl)⟩ rfl rfl (Nat.le_of_ble_eq_true rfl) dX7_checkWay_2 ⟨(Nat.le_of_ble_eq_true rfl), (Nat.le_of_ble_eq_true rfl)⟩ ?_
  refine v_iload_n 2 K dX7_checkWay_5 rfl ?_
  refine v_if_lt 25 K dX7_checkWay_6 (by decide) (by omega) (fun c6 => (by exfalso; omega)) (fun c6 => ?_)
  refine v_iload_n 2 K dX7_checkWay_9 rfl ?_
  refine v_aload_n 0 K dX7_checkWay_10 rfl ?_
  refine v_get (c := 0) (k := 0) (C := RX7) (T := TX7) (N := 7) (v := .ref (vAd X 1)) K isO_SJ rfl (fun _ h => (List.mem_cons_of_mem _ (List.mem_append_left _ (List.mem_append_left _ (List.mem_append_left _ (List.mem_append_right _ h)))))) (by decide) (List.mem_cons_of_mem _ (List.mem_append_left _ (List.mem_append_left _ (List.mem_append_left _ (List.mem_append_left _ (List.mem_of_getElem? (i := 2) rfl)))))) rfl dX7_checkWay_11 rfl ?_
  refine v_get (c := 1) (k := 1) (C := RX0) (T := TX0) (N := 4) (v := .ref (vAd X 20)) K isO_Bd rfl (fun _ h => (List.mem_cons_of_mem _ (List.mem_append_left _ (List.mem_append_left _ (List.mem_append_right _ h))))) (by decide) (List.mem_cons_of_mem _ (List.mem_append_left _ (List.mem_append_left _ (List.mem_append_left _ (List.mem_append_left _ (List.mem_of_getElem? (i := 3) rfl)))))) rfl dX7_checkWay_14 rfl ?_
  refine v_iload_n 1 K dX7_checkWay_17 rfl ?_
  refine v_aald (c := 20) p K isQ_Py rfl rfl (by omega) dX7_checkWay_18 ?_
  refine v_get (c := (37 + p)) (k := 3) (C := RX4) (T := TX4) (N := 6) (v := .int (iZ (μ (37 + p) 3))) K (isO_Py (p := p) (by omega)) rfl (fun _ h => (List.mem_cons_of_mem _ (List.mem_append_left _ (List.mem_append_right _ h)))) (by decide) (List.mem_cons_of_mem _ (List.mem_append_left _ (List.mem_append_left _ (List.mem_append_left _ (List.mem_append_left _ (List.mem_of_getElem? (i := 4) rfl)))))) rfl dX7_checkWay_19 rfl ?_
  refine v_icmp_lt 36 K dX7_checkWay_22 (by decide) (by omega) (by omega) (fun c22 => (by exfalso; omega)) (fun c22 => ?_)
  exact v_throwSW (own := RX7) (cls := "java/lang/IndexOutOfBoundsException") (text := "no such way") K T (by decide +kernel) (by decide +kernel) (List.mem_cons_of_mem _ (List.mem_append_left _ (List.mem_append_left _ (List.mem_append_left _ (List.mem_append_left _ (List.mem_of_getElem? (i := 0) rfl)))))) (List.mem_cons_of_mem _ (List.mem_append_left _ (List.mem_append_left _ (List.mem_append_left _ (List.mem_append_left _ (List.mem_of_getElem? (i := 1) rfl)))))) (fun w h => (List.mem_cons_of_mem _ (List.mem_append_right _ h))) (by decide +kernel) (by decide +kernel) (by decide +kernel) dX7_checkWay_25 dX7_checkWay_28 dX7_checkWay_29 dX7_checkWay_32 dX7_checkWay_35 (Nat.le_of_ble_eq_true rfl) (Nat.le_of_ble_eq_true rfl) (Nat.le_of_ble_eq_true rfl) (Nat.le_of_ble_eq_true rfl)
theorem c_X7_checkWayT (l : Launch) (hl : l.stackTraces = false) (D : va_G) (cy : Nat → ClassId) (ad : Nat → Nat) (μ : Mem) (p : Nat) (w : Int) (hW : WF μ) (hp : p < pcn μ) (hw : μ (37 + p) 3 ≤ w ∧ w ≤ 1000) : cTv l yX7_checkWay wsX7_checkWay ({ frames := 6, cells := 1, slots := 6, locals := 82 } : Room) D cy ad μ [.ref (ad 0), .int (iZ (p : Int)), .int (iZ w)] "java/lang/IndexOutOfBoundsException" :=
  m_thrv (av := (fun ad => [.ref (ad 0), .int (iZ (p : Int)), .int (iZ w)])) hl (by decide) rfl rfl (Nat.le_of_ble_eq_true rfl) (fun X K T => b_X7_checkWayT p w hW hp hw K T)
theorem dX7_countWays_0 : decode cX7_countWays 0 = .ok (.aload_n 0, 1) := by decide +kernel
theorem dX7_countWays_1 : decode cX7_countWays 1 = .ok (.iload_n 1, 1) := by decide +kernel
theorem dX7_countWays_2 : decode cX7_countWays 2 = .ok (.invokevirtual 88, 3) := by decide +kernel
set_option maxRecDepth 20000 in
theorem ggX7_countWays_X7_checkPlayer : GoodIn wsX7_countWays wsX7_checkPlayer := goodIn_ca (goodIn_r _ [8, 9, 10, 1, 11, 12, 13, 14, 15, 16, 17, 18, 19, 20, 21, 22] (by decide +kernel) (by decide +kernel)) (goodIn_sub (fun _ h => List.mem_cons_of_mem _ (List.mem_append_right _ h)) (by decide +kernel))
set_option maxRecDepth 20000 in
theorem gX7_countWays_X7_checkPlayer : GoodIn wsX7_countWays (wsV RX7 88 RX7 yX7_checkPlayer wsX7_checkPlayer) := goodIn_app (goodIn_of _ (by decide +kernel)) ggX7_countWays_X7_checkPlayer
theorem dX7_countWays_5 : decode cX7_countWays 5 = .ok (.aload_n 0, 1) := by decide +kernel
theorem dX7_countWays_6 : decode cX7_countWays 6 = .ok (.getfield 10, 3) := by decide +kernel
theorem dX7_countWays_9 : decode cX7_countWays 9 = .ok (.getfield 105, 3) := by decide +kernel
theorem dX7_countWays_12 : decode cX7_countWays 12 = .ok (.iload_n 1, 1) := by decide +kernel
theorem dX7_countWays_13 : decode cX7_countWays 13 = .ok (.aaload, 1) := by decide +kernel
theorem dX7_countWays_14 : decode cX7_countWays 14 = .ok (.getfield 120, 3) := by decide +kernel
theorem dX7_countWays_17 : decode cX7_countWays 17 = .ok (.ireturn, 1) := by decide +kernel
set_option maxHeartbeats 4000000 in
set_option maxRecDepth 100000 in
theorem b_X7_countWays {X : VC} {μ : Mem} (p : Nat) (hW : WF μ) (hp : p < pcn μ) (K : vK X cX7_countWays 2 RX7 wsX7_countWays ({ frames := 1, cells := 0, slots := 0, locals := 21 } : Room)) (hret : ∀ (z : Int) (ν : Mem), (fun (z : Int) (ν : Mem) => z = μ (37 + p) 3 ∧ ν = μ) z ν → ∀ n pc k1 k2 lv, k1 ≤ 0 → k2 ≤ 0 → decode cX7_countWays pc = .ok (.ireturn, 1) → vW X n pc k1 k2 lv [.int (iZ z)] ν) : vW X 2 0 0 0 [(0, .ref (vAd X 0)), (1, .int (iZ (p : Int)))] [] μ := by
  have hpc := hW.pc6
  have hpl := hW.pl (p := p) (by omega)
  refine v_aload_n 0 K dX7_countWays_0 rfl ?_
  refine v_iload_n 1 K dX7_countWays_1 rfl ?_
  refine v_callVvr (c := 0) (As := [.int (iZ (p : Int))]) (rest := []) K isO_SJ rfl 1 (c_X7_checkPlayer X.1.2.1 K.2.2.2.2.2.2 _ _ _ μ (p : Int) (by omega) (by omega)) gX7_countWays_X7_checkPlayer rfl rfl rfl (by decide +kernel) ⟨(Nat.le_of_ble_eq_true rfl), (Nat.le_of_ble_eq_true rfl)⟩ rfl rfl (Nat.le_of_ble_eq_true rfl) dX7_countWays_2 ⟨(Nat.le_of_ble_eq_true rfl), (Nat.le_of_ble_eq_true rfl)⟩ ?_
  refine v_aload_n 0 K dX7_countWays_5 rfl ?_
  refine v_get (c := 0) (k := 0) (C := RX7) (T := TX7) (N := 7) (v := .ref (vAd X 1)) K isO_SJ rfl (fun _ h => (List.mem_cons_of_mem _ (List.mem_append_left _ (List.mem_append_left _ (List.mem_append_left _ (List.mem_append_right _ h)))))) (by decide) (List.mem_cons_of_mem _ (List.mem_append_left _ (List.mem_append_left _ (List.mem_append_left _ (List.mem_append_left _ (List.mem_of_getElem? (i := 0) rfl)))))) rfl dX7_countWays_6 rfl ?_
  refine v_get (c := 1) (k := 1) (C := RX0) (T := TX0) (N := 4) (v := .ref (vAd X 20)) K isO_Bd rfl (fun _ h => (List.mem_cons_of_mem _ (List.mem_append_left _ (List.mem_append_left _ (List.mem_append_right _ h))))) (by decide) (List.mem_cons_of_mem _ (List.mem_append_left _ (List.mem_append_left _ (List.mem_append_left _ (List.mem_append_left _ (List.mem_of_getElem? (i := 1) rfl)))))) rfl dX7_countWays_9 rfl ?_
  refine v_iload_n 1 K dX7_countWays_12 rfl ?_
  refine v_aald (c := 20) p K isQ_Py rfl rfl (by omega) dX7_countWays_13 ?_
  refine v_get (c := (37 + p)) (k := 3) (C := RX4) (T := TX4) (N := 6) (v := .int (iZ (μ (37 + p) 3))) K (isO_Py (p := p) (by omega)) rfl (fun _ h => (List.mem_cons_of_mem _ (List.mem_append_left _ (List.mem_append_right _ h)))) (by decide) (List.mem_cons_of_mem _ (List.mem_append_left _ (List.mem_append_left _ (List.mem_append_left _ (List.mem_append_left _ (List.mem_of_getElem? (i := 2) rfl)))))) rfl dX7_countWays_14 rfl ?_
  exact hret _ _ ⟨rfl, rfl⟩ _ _ _ _ _ (Nat.le_of_ble_eq_true rfl) (Nat.le_of_ble_eq_true rfl) dX7_countWays_17
theorem c_X7_countWays (l : Launch) (hl : l.stackTraces = false) (D : va_G) (cy : Nat → ClassId) (ad : Nat → Nat) (μ : Mem) (p : Nat) (hW : WF μ) (hp : p < pcn μ) : cI l yX7_countWays wsX7_countWays ({ frames := 1, cells := 0, slots := 0, locals := 21 } : Room) D cy ad μ [.ref (ad 0), .int (iZ (p : Int))] (fun (z : Int) (ν : Mem) => z = μ (37 + p) 3 ∧ ν = μ) :=
  m_int (av := (fun ad => [.ref (ad 0), .int (iZ (p : Int))])) hl (by decide) rfl rfl (Nat.le_of_ble_eq_true rfl) (fun _ _ _ => rfl) (fun X K hret => b_X7_countWays p hW hp K hret)
theorem dX7_getWay_0 : decode cX7_getWay 0 = .ok (.aload_n 0, 1) := by decide +kernel
theorem dX7_getWay_1 : decode cX7_getWay 1 = .ok (.iload_n 1, 1) := by decide +kernel
theorem dX7_getWay_2 : decode cX7_getWay 2 = .ok (.iload_n 2, 1) := by decide +kernel
theorem dX7_getWay_3 : decode cX7_getWay 3 = .ok (.invokevirtual 148, 3) := by decide +kernel
set_option maxRecDepth 20000 in
theorem ggX7_getWay_X7_checkWay : GoodIn wsX7_getWay wsX7_checkWay := goodIn_ca (goodIn_r _ [7, 8, 9, 1, 2, 10, 11, 12, 13, 6, 14, 15, 23, 24, 25, 26, 27, 28, 29, 30, 31, 32, 33, 34, 35, 36, 37, 38, 39] (by decide +kernel) (by decide +kernel)) (goodIn_sub (fun _ h => List.mem_cons_of_mem _ (List.mem_append_left _ (List.mem_append_right _ h))) (by decide +kernel))
set_option maxRecDepth 20000 in
theorem gX7_getWay_X7_checkWay : GoodIn wsX7_getWay (wsV RX7 148 RX7 yX7_checkWay wsX7_checkWay) := goodIn_app (goodIn_of _ (by decide +kernel)) ggX7_getWay_X7_checkWay
theorem dX7_getWay_6 : decode cX7_getWay 6 = .ok (.aload_n 0, 1) := by decide +kernel
theorem dX7_getWay_7 : decode cX7_getWay 7 = .ok (.getfield 10, 3) := by decide +kernel
theorem dX7_getWay_10 : decode cX7_getWay 10 = .ok (.getfield 105, 3) := by decide +kernel
theorem dX7_getWay_13 : decode cX7_getWay 13 = .ok (.iload_n 1, 1) := by decide +kernel
theorem dX7_getWay_14 : decode cX7_getWay 14 = .ok (.aaload, 1) := by decide +kernel
theorem dX7_getWay_15 : decode cX7_getWay 15 = .ok (.iload_n 2, 1) := by decide +kernel
theorem dX7_getWay_16 : decode cX7_getWay 16 = .ok (.invokevirtual 151, 3) := by decide +kernel
set_option maxRecDepth 20000 in
theorem ggX7_getWay_X4_bitsOf : GoodIn wsX7_getWay wsX4_bitsOf := goodIn_ca (goodIn_r _ [20, 21, 22, 34, 35, 36, 37, 38, 39] (by decide +kernel) (by decide +kernel)) (goodIn_sub (fun _ h => List.mem_cons_of_mem _ (List.mem_append_right _ h)) (by decide +kernel))
set_option maxRecDepth 20000 in
theorem gX7_getWay_X4_bitsOf : GoodIn wsX7_getWay (wsV RX7 151 RX4 yX4_bitsOf wsX4_bitsOf) := goodIn_app (goodIn_of _ (by decide +kernel)) ggX7_getWay_X4_bitsOf
theorem dX7_getWay_19 : decode cX7_getWay 19 = .ok (.ireturn, 1) := by decide +kernel
set_option maxHeartbeats 4000000 in
set_option maxRecDepth 100000 in
theorem b_X7_getWay {X : VC} {μ : Mem} (p : Nat) (w : Int) (hW : WF μ) (hp : p < pcn μ) (hw : 0 ≤ w ∧ w < μ (37 + p) 3) (K : vK X cX7_getWay 3 RX7 wsX7_getWay ({ frames := 2, cells := 0, slots := 0, locals := 43 } : Room)) (hret : ∀ (z : Int) (ν : Mem), (fun (z : Int) (ν : Mem) => z = bits μ p w ∧ ν = μ) z ν → ∀ n pc k1 k2 lv, k1 ≤ 0 → k2 ≤ 0 → decode cX7_getWay pc = .ok (.ireturn, 1) → vW X n pc k1 k2 lv [.int (iZ z)] ν) : vW X 3 0 0 0 [(0, .ref (vAd X 0)), (1, .int (iZ (p : Int))), (2, .int (iZ w))] [] μ := by
  have hpc := hW.pc6
  have hpl := hW.pl (p := p) (by omega)
  refine v_aload_n 0 K dX7_getWay_0 rfl ?_
  refine v_iload_n 1 K dX7_getWay_1 rfl ?_
  refine v_iload_n 2 K dX7_getWay_2 rfl ?_
  refine v_callVvr (c := 0) (As := [.int (iZ (p : Int)), .int (iZ w)]) (rest := []) K isO_SJ rfl 2 (c_X7_checkWay X.1.2.1 K.2.2.2.2.2.2 _ _ _ μ p w hW hp hw) gX7_getWay_X7_checkWay rfl rfl rfl (by decide +kernel) ⟨(Nat.le_of_ble_eq_true rfl), (Nat.le_of_ble_eq_true rfl)⟩ rfl rfl (Nat.le_of_ble_eq_true rfl) dX7_getWay_3 ⟨(Nat.le_of_ble_eq_true rfl), (Nat.le_of_ble_eq_true rfl)⟩ ?_
  refine v_aload_n 0 K dX7_getWay_6 rfl ?_
  refine v_get (c := 0) (k := 0) (C := RX7) (T := TX7) (N := 7) (v := .ref (vAd X 1)) K isO_SJ rfl (fun _ h => (List.mem_cons_of_mem _ (List.mem_append_left _ (List.mem_append_left _ (List.mem_append_left _ (List.mem_append_left _ (List.mem_append_right _ h))))))) (by decide) (List.mem_cons_of_mem _ (List.mem_append_left _ (List.mem_append_left _ (List.mem_append_left _ (List.mem_append_left _ (List.mem_append_left _ (List.mem_of_getElem? (i := 0) rfl))))))) rfl dX7_getWay_7 rfl ?_
  refine v_get (c := 1) (k := 1) (C := RX0) (T := TX0) (N := 4) (v := .ref (vAd X 20)) K isO_Bd rfl (fun _ h => (List.mem_cons_of_mem _ (List.mem_append_left _ (List.mem_append_left _ (List.mem_append_left _ (List.mem_append_right _ h)))))) (by decide) (List.mem_cons_of_mem _ (List.mem_append_left _ (List.mem_append_left _ (List.mem_append_left _ (List.mem_append_left _ (List.mem_append_left _ (List.mem_of_getElem? (i := 1) rfl))))))) rfl dX7_getWay_10 rfl ?_
  refine v_iload_n 1 K dX7_getWay_13 rfl ?_
  refine v_aald (c := 20) p K isQ_Py rfl rfl (by omega) dX7_getWay_14 ?_
  refine v_iload_n 2 K dX7_getWay_15 rfl ?_
  refine v_callVir (c := (37 + p)) (As := [.int (iZ w)]) (rest := []) K (isO_Py (p := p) (by omega)) rfl 1 (c_X4_bitsOf X.1.2.1 K.2.2.2.2.2.2 _ _ _ μ p w (by omega) (by omega) hW) gX7_getWay_X4_bitsOf rfl rfl rfl (by decide +kernel) ⟨(Nat.le_of_ble_eq_true rfl), (Nat.le_of_ble_eq_true rfl)⟩ rfl rfl (Nat.le_of_ble_eq_true rfl) dX7_getWay_16 ⟨(Nat.le_of_ble_eq_true rfl), (Nat.le_of_ble_eq_true rfl)⟩ ?_
  exact hret _ _ ⟨rfl, rfl⟩ _ _ _ _ _ (Nat.le_of_ble_eq_true rfl) (Nat.le_of_ble_eq_true rfl) dX7_getWay_19
theorem c_X7_getWay (l : Launch) (hl : l.stackTraces = false) (D : va_G) (cy : Nat → ClassId) (ad : Nat → Nat) (μ : Mem) (p : Nat) (w : Int) (hW : WF μ) (hp : p < pcn μ) (hw : 0 ≤ w ∧ w < μ (37 + p) 3) : cI l yX7_getWay wsX7_getWay ({ frames := 2, cells := 0, slots := 0, locals := 43 } : Room) D cy ad μ [.ref (ad 0), .int (iZ (p : Int)), .int (iZ w)] (fun (z : Int) (ν : Mem) => z = bits μ p w ∧ ν = μ) :=
  m_int (av := (fun ad => [.ref (ad 0), .int (iZ (p : Int)), .int (iZ w)])) hl (by decide) rfl rfl (Nat.le_of_ble_eq_true rfl) (fun _ _ _ => rfl) (fun X K hret => b_X7_getWay p w hW hp hw K hret)
theorem dX7_getChosen_0 : decode cX7_getChosen 0 = .ok (.aload_n 0, 1) := by decide +kernel
theorem dX7_getChosen_1 : decode cX7_getChosen 1 = .ok (.iload_n 1, 1) := by decide +kernel
theorem dX7_getChosen_2 : decode cX7_getChosen 2 = .ok (.invokevirtual 88, 3) := by decide +kernel
set_option maxRecDepth 20000 in
theorem ggX7_getChosen_X7_checkPlayer : GoodIn wsX7_getChosen wsX7_checkPlayer := goodIn_ca (goodIn_r _ [7, 8, 9, 10, 11, 12, 13, 14, 15, 16, 17, 18, 22, 23, 24, 25] (by decide +kernel) (by decide +kernel)) (goodIn_sub (fun _ h => List.mem_cons_of_mem _ (List.mem_append_right _ h)) (by decide +kernel))
set_option maxRecDepth 20000 in
theorem gX7_getChosen_X7_checkPlayer : GoodIn wsX7_getChosen (wsV RX7 88 RX7 yX7_checkPlayer wsX7_checkPlayer) := goodIn_app (goodIn_of _ (by decide +kernel)) ggX7_getChosen_X7_checkPlayer
theorem dX7_getChosen_5 : decode cX7_getChosen 5 = .ok (.aload_n 0, 1) := by decide +kernel
theorem dX7_getChosen_6 : decode cX7_getChosen 6 = .ok (.getfield 19, 3) := by decide +kernel
theorem dX7_getChosen_9 : decode cX7_getChosen 9 = .ok (.getfield 161, 3) := by decide +kernel
theorem dX7_getChosen_12 : decode cX7_getChosen 12 = .ok (.iload_n 1, 1) := by decide +kernel
theorem dX7_getChosen_13 : decode cX7_getChosen 13 = .ok (.iaload, 1) := by decide +kernel
theorem dX7_getChosen_14 : decode cX7_getChosen 14 = .ok (.ireturn, 1) := by decide +kernel
set_option maxHeartbeats 4000000 in
set_option maxRecDepth 100000 in
theorem b_X7_getChosen {X : VC} {μ : Mem} (p : Nat) (hW : WF μ) (hp : p < pcn μ) (K : vK X cX7_getChosen 2 RX7 wsX7_getChosen ({ frames := 1, cells := 0, slots := 0, locals := 21 } : Room)) (hret : ∀ (z : Int) (ν : Mem), (fun (z : Int) (ν : Mem) => z = μ (5 + 2 * 0) p ∧ ν = μ) z ν → ∀ n pc k1 k2 lv, k1 ≤ 0 → k2 ≤ 0 → decode cX7_getChosen pc = .ok (.ireturn, 1) → vW X n pc k1 k2 lv [.int (iZ z)] ν) : vW X 2 0 0 0 [(0, .ref (vAd X 0)), (1, .int (iZ (p : Int)))] [] μ := by
  have hpc := hW.pc6
  have hpl := hW.pl (p := p) (by omega)
  refine v_aload_n 0 K dX7_getChosen_0 rfl ?_
  refine v_iload_n 1 K dX7_getChosen_1 rfl ?_
  refine v_callVvr (c := 0) (As := [.int (iZ (p : Int))]) (rest := []) K isO_SJ rfl 1 (c_X7_checkPlayer X.1.2.1 K.2.2.2.2.2.2 _ _ _ μ (p : Int) (by omega) (by omega)) gX7_getChosen_X7_checkPlayer rfl rfl rfl (by decide +kernel) ⟨(Nat.le_of_ble_eq_true rfl), (Nat.le_of_ble_eq_true rfl)⟩ rfl rfl (Nat.le_of_ble_eq_true rfl) dX7_getChosen_2 ⟨(Nat.le_of_ble_eq_true rfl), (Nat.le_of_ble_eq_true rfl)⟩ ?_
  refine v_aload_n 0 K dX7_getChosen_5 rfl ?_
  refine v_get (c := 0) (k := 1) (C := RX7) (T := TX7) (N := 7) (v := .ref (vAd X (2 + 0))) K isO_SJ rfl (fun _ h => (List.mem_cons_of_mem _ (List.mem_append_left _ (List.mem_append_left _ (List.mem_append_left _ (List.mem_append_left _ (List.mem_append_right _ h))))))) (by decide) (List.mem_cons_of_mem _ (List.mem_append_left _ (List.mem_append_left _ (List.mem_append_left _ (List.mem_append_left _ (List.mem_append_left _ (List.mem_of_getElem? (i := 0) rfl))))))) rfl dX7_getChosen_6 rfl ?_
  refine v_get (c := (2 + 0)) (k := 0) (C := RX3) (T := TX3) (N := 3) (v := .ref (vAd X (5 + 2 * 0))) K (isO_Pl (y := 0) (by omega)) rfl (fun _ h => (List.mem_cons_of_mem _ (List.mem_append_left _ (List.mem_append_left _ (List.mem_append_left _ (List.mem_append_right _ h)))))) (by decide) (List.mem_cons_of_mem _ (List.mem_append_left _ (List.mem_append_left _ (List.mem_append_left _ (List.mem_append_left _ (List.mem_append_left _ (List.mem_of_getElem? (i := 1) rfl))))))) rfl dX7_getChosen_9 rfl ?_
  refine v_iload_n 1 K dX7_getChosen_12 rfl ?_
  refine v_iald (c := (5 + 2 * 0)) p K (isI_ch (y := 0) (by omega)) rfl (by omega) dX7_getChosen_13 ?_
  exact hret _ _ ⟨rfl, rfl⟩ _ _ _ _ _ (Nat.le_of_ble_eq_true rfl) (Nat.le_of_ble_eq_true rfl) dX7_getChosen_14
theorem c_X7_getChosen (l : Launch) (hl : l.stackTraces = false) (D : va_G) (cy : Nat → ClassId) (ad : Nat → Nat) (μ : Mem) (p : Nat) (hW : WF μ) (hp : p < pcn μ) : cI l yX7_getChosen wsX7_getChosen ({ frames := 1, cells := 0, slots := 0, locals := 21 } : Room) D cy ad μ [.ref (ad 0), .int (iZ (p : Int))] (fun (z : Int) (ν : Mem) => z = μ (5 + 2 * 0) p ∧ ν = μ) :=
  m_int (av := (fun ad => [.ref (ad 0), .int (iZ (p : Int))])) hl (by decide) rfl rfl (Nat.le_of_ble_eq_true rfl) (fun _ _ _ => rfl) (fun X K hret => b_X7_getChosen p hW hp K hret)
theorem dX7_getLoad_0 : decode cX7_getLoad 0 = .ok (.aload_n 0, 1) := by decide +kernel
theorem dX7_getLoad_1 : decode cX7_getLoad 1 = .ok (.iload_n 1, 1) := by decide +kernel
theorem dX7_getLoad_2 : decode cX7_getLoad 2 = .ok (.invokevirtual 168, 3) := by decide +kernel
set_option maxRecDepth 20000 in
theorem ggX7_getLoad_X7_checkResource : GoodIn wsX7_getLoad wsX7_checkResource := goodIn_ca (goodIn_r _ [7, 8, 9, 10, 11, 12, 13, 14, 15, 16, 17, 18, 22, 23, 24, 25] (by decide +kernel) (by decide +kernel)) (goodIn_sub (fun _ h => List.mem_cons_of_mem _ (List.mem_append_right _ h)) (by decide +kernel))
set_option maxRecDepth 20000 in
theorem gX7_getLoad_X7_checkResource : GoodIn wsX7_getLoad (wsV RX7 168 RX7 yX7_checkResource wsX7_checkResource) := goodIn_app (goodIn_of _ (by decide +kernel)) ggX7_getLoad_X7_checkResource
theorem dX7_getLoad_5 : decode cX7_getLoad 5 = .ok (.aload_n 0, 1) := by decide +kernel
theorem dX7_getLoad_6 : decode cX7_getLoad 6 = .ok (.getfield 19, 3) := by decide +kernel
theorem dX7_getLoad_9 : decode cX7_getLoad 9 = .ok (.getfield 171, 3) := by decide +kernel
theorem dX7_getLoad_12 : decode cX7_getLoad 12 = .ok (.iload_n 1, 1) := by decide +kernel
theorem dX7_getLoad_13 : decode cX7_getLoad 13 = .ok (.iaload, 1) := by decide +kernel
theorem dX7_getLoad_14 : decode cX7_getLoad 14 = .ok (.ireturn, 1) := by decide +kernel
set_option maxHeartbeats 4000000 in
set_option maxRecDepth 100000 in
theorem b_X7_getLoad {X : VC} {μ : Mem} (r : Nat) (hW : WF μ) (hr : r < rc μ) (K : vK X cX7_getLoad 2 RX7 wsX7_getLoad ({ frames := 1, cells := 0, slots := 0, locals := 21 } : Room)) (hret : ∀ (z : Int) (ν : Mem), (fun (z : Int) (ν : Mem) => z = μ (6 + 2 * 0) r ∧ ν = μ) z ν → ∀ n pc k1 k2 lv, k1 ≤ 0 → k2 ≤ 0 → decode cX7_getLoad pc = .ok (.ireturn, 1) → vW X n pc k1 k2 lv [.int (iZ z)] ν) : vW X 2 0 0 0 [(0, .ref (vAd X 0)), (1, .int (iZ (r : Int)))] [] μ := by
  have hrc := hW.rc8
  have htl := hW.tl (r := r) (by omega)
  refine v_aload_n 0 K dX7_getLoad_0 rfl ?_
  refine v_iload_n 1 K dX7_getLoad_1 rfl ?_
  refine v_callVvr (c := 0) (As := [.int (iZ (r : Int))]) (rest := []) K isO_SJ rfl 1 (c_X7_checkResource X.1.2.1 K.2.2.2.2.2.2 _ _ _ μ (r : Int) (by omega) (by omega)) gX7_getLoad_X7_checkResource rfl rfl rfl (by decide +kernel) ⟨(Nat.le_of_ble_eq_true rfl), (Nat.le_of_ble_eq_true rfl)⟩ rfl rfl (Nat.le_of_ble_eq_true rfl) dX7_getLoad_2 ⟨(Nat.le_of_ble_eq_true rfl), (Nat.le_of_ble_eq_true rfl)⟩ ?_
  refine v_aload_n 0 K dX7_getLoad_5 rfl ?_
  refine v_get (c := 0) (k := 1) (C := RX7) (T := TX7) (N := 7) (v := .ref (vAd X (2 + 0))) K isO_SJ rfl (fun _ h => (List.mem_cons_of_mem _ (List.mem_append_left _ (List.mem_append_left _ (List.mem_append_left _ (List.mem_append_left _ (List.mem_append_right _ h))))))) (by decide) (List.mem_cons_of_mem _ (List.mem_append_left _ (List.mem_append_left _ (List.mem_append_left _ (List.mem_append_left _ (List.mem_append_left _ (List.mem_of_getElem? (i := 0) rfl))))))) rfl dX7_getLoad_6 rfl ?_
  refine v_get (c := (2 + 0)) (k := 1) (C := RX3) (T := TX3) (N := 3) (v := .ref (vAd X (6 + 2 * 0))) K (isO_Pl (y := 0) (by omega)) rfl (fun _ h => (List.mem_cons_of_mem _ (List.mem_append_left _ (List.mem_append_left _ (List.mem_append_left _ (List.mem_append_right _ h)))))) (by decide) (List.mem_cons_of_mem _ (List.mem_append_left _ (List.mem_append_left _ (List.mem_append_left _ (List.mem_append_left _ (List.mem_append_left _ (List.mem_of_getElem? (i := 1) rfl))))))) rfl dX7_getLoad_9 rfl ?_
  refine v_iload_n 1 K dX7_getLoad_12 rfl ?_
  refine v_iald (c := (6 + 2 * 0)) r K (isI_ld (y := 0) (by omega)) rfl (by omega) dX7_getLoad_13 ?_
  exact hret _ _ ⟨rfl, rfl⟩ _ _ _ _ _ (Nat.le_of_ble_eq_true rfl) (Nat.le_of_ble_eq_true rfl) dX7_getLoad_14
theorem c_X7_getLoad (l : Launch) (hl : l.stackTraces = false) (D : va_G) (cy : Nat → ClassId) (ad : Nat → Nat) (μ : Mem) (r : Nat) (hW : WF μ) (hr : r < rc μ) : cI l yX7_getLoad wsX7_getLoad ({ frames := 1, cells := 0, slots := 0, locals := 21 } : Room) D cy ad μ [.ref (ad 0), .int (iZ (r : Int))] (fun (z : Int) (ν : Mem) => z = μ (6 + 2 * 0) r ∧ ν = μ) :=
  m_int (av := (fun ad => [.ref (ad 0), .int (iZ (r : Int))])) hl (by decide) rfl rfl (Nat.le_of_ble_eq_true rfl) (fun _ _ _ => rfl) (fun X K hret => b_X7_getLoad r hW hr K hret)
set_option maxHeartbeats 4000000 in
set_option maxRecDepth 100000 in
theorem b_X7_getLoadT {X : VC} {μ : Mem} (n : Int) (hrc : 0 ≤ μ 1 2 ∧ μ 1 2 ≤ 8) (h : μ 1 2 ≤ n ∧ n ≤ 1000) (K : vK X cX7_getLoad 2 RX7 wsX7_getLoad ({ frames := 7, cells := 1, slots := 6, locals := 103 } : Room)) (T : vT X μ "java/lang/IndexOutOfBoundsException") : vW X 2 0 0 0 [(0, .ref (vAd X 0)), (1, .int (iZ n))] [] μ := by
  refine v_aload_n 0 K dX7_getLoad_0 rfl ?_
  refine v_iload_n 1 K dX7_getLoad_1 rfl ?_
  exact v_callVTv (c := 0) (As := [.int (iZ n)]) (rest := []) K T isO_SJ rfl 1 (c_X7_checkResourceT X.1.2.1 K.2.2.2.2.2.2 _ _ _ μ n hrc h) gX7_getLoad_X7_checkResource rfl rfl rfl (by decide +kernel) ⟨(Nat.le_of_ble_eq_true rfl), (Nat.le_of_ble_eq_true rfl)⟩ rfl rfl (Nat.le_of_ble_eq_true rfl) dX7_getLoad_2 ⟨(Nat.le_of_ble_eq_true rfl), (Nat.le_of_ble_eq_true rfl)⟩ (Nat.le_of_ble_eq_true rfl) (Nat.le_of_ble_eq_true rfl)
theorem c_X7_getLoadT (l : Launch) (hl : l.stackTraces = false) (D : va_G) (cy : Nat → ClassId) (ad : Nat → Nat) (μ : Mem) (n : Int) (hrc : 0 ≤ μ 1 2 ∧ μ 1 2 ≤ 8) (h : μ 1 2 ≤ n ∧ n ≤ 1000) : cTi l yX7_getLoad wsX7_getLoad ({ frames := 7, cells := 1, slots := 6, locals := 103 } : Room) D cy ad μ [.ref (ad 0), .int (iZ n)] "java/lang/IndexOutOfBoundsException" :=
  m_thri (av := (fun ad => [.ref (ad 0), .int (iZ n)])) hl (by decide) rfl rfl (Nat.le_of_ble_eq_true rfl) (fun X K T => b_X7_getLoadT n hrc h K T)
theorem dX7_getDelay_0 : decode cX7_getDelay 0 = .ok (.aload_n 0, 1) := by decide +kernel
theorem dX7_getDelay_1 : decode cX7_getDelay 1 = .ok (.iload_n 1, 1) := by decide +kernel
theorem dX7_getDelay_2 : decode cX7_getDelay 2 = .ok (.invokevirtual 168, 3) := by decide +kernel
set_option maxRecDepth 20000 in
theorem ggX7_getDelay_X7_checkResource : GoodIn wsX7_getDelay wsX7_checkResource := goodIn_ca (goodIn_r _ [7, 8, 9, 1, 10, 23, 24, 25, 26, 27, 28, 29, 30, 31, 32, 33] (by decide +kernel) (by decide +kernel)) (goodIn_sub (fun _ h => List.mem_cons_of_mem _ (List.mem_append_left _ (List.mem_append_left _ (List.mem_append_right _ h)))) (by decide +kernel))
set_option maxRecDepth 20000 in
theorem gX7_getDelay_X7_checkResource : GoodIn wsX7_getDelay (wsV RX7 168 RX7 yX7_checkResource wsX7_checkResource) := goodIn_app (goodIn_of _ (by decide +kernel)) ggX7_getDelay_X7_checkResource
theorem dX7_getDelay_5 : decode cX7_getDelay 5 = .ok (.aload_n 0, 1) := by decide +kernel
theorem dX7_getDelay_6 : decode cX7_getDelay 6 = .ok (.iload_n 2, 1) := by decide +kernel
theorem dX7_getDelay_7 : decode cX7_getDelay 7 = .ok (.iconst 0, 1) := by decide +kernel
theorem dX7_getDelay_8 : decode cX7_getDelay 8 = .ok (.bipush 18, 2) := by decide +kernel
theorem dX7_getDelay_10 : decode cX7_getDelay 10 = .ok (.invokevirtual 174, 3) := by decide +kernel
set_option maxRecDepth 20000 in
theorem ggX7_getDelay_X7_checkRange : GoodIn wsX7_getDelay wsX7_checkRange := goodIn_ca (goodIn_r _ [14, 15, 16] (by decide +kernel) (by decide +kernel)) (goodIn_sub (fun _ h => List.mem_cons_of_mem _ (List.mem_append_left _ (List.mem_append_right _ h))) (by decide +kernel))
set_option maxRecDepth 20000 in
theorem gX7_getDelay_X7_checkRange : GoodIn wsX7_getDelay (wsV RX7 174 RX7 yX7_checkRange wsX7_checkRange) := goodIn_app (goodIn_of _ (by decide +kernel)) ggX7_getDelay_X7_checkRange
theorem dX7_getDelay_13 : decode cX7_getDelay 13 = .ok (.aload_n 0, 1) := by decide +kernel
theorem dX7_getDelay_14 : decode cX7_getDelay 14 = .ok (.getfield 10, 3) := by decide +kernel
theorem dX7_getDelay_17 : decode cX7_getDelay 17 = .ok (.getfield 66, 3) := by decide +kernel
theorem dX7_getDelay_20 : decode cX7_getDelay 20 = .ok (.iload_n 1, 1) := by decide +kernel
theorem dX7_getDelay_21 : decode cX7_getDelay 21 = .ok (.aaload, 1) := by decide +kernel
theorem dX7_getDelay_22 : decode cX7_getDelay 22 = .ok (.iload_n 2, 1) := by decide +kernel
theorem dX7_getDelay_23 : decode cX7_getDelay 23 = .ok (.invokevirtual 178, 3) := by decide +kernel
set_option maxRecDepth 20000 in
theorem ggX7_getDelay_X5_delayBy : GoodIn wsX7_getDelay wsX5_delayBy := goodIn_ca (goodIn_r _ [21, 22, 34, 35, 36, 37, 38, 39, 40] (by decide +kernel) (by decide +kernel)) (goodIn_sub (fun _ h => List.mem_cons_of_mem _ (List.mem_append_right _ h)) (by decide +kernel))
set_option maxRecDepth 20000 in
theorem gX7_getDelay_X5_delayBy : GoodIn wsX7_getDelay (wsV RX7 178 RX5 yX5_delayBy wsX5_delayBy) := goodIn_app (goodIn_of _ (by decide +kernel)) ggX7_getDelay_X5_delayBy
theorem dX7_getDelay_26 : decode cX7_getDelay 26 = .ok (.ireturn, 1) := by decide +kernel
set_option maxHeartbeats 4000000 in
set_option maxRecDepth 100000 in
theorem b_X7_getDelay {X : VC} {μ : Mem} (r : Nat) (x : Int) (hW : WF μ) (hr : r < rc μ) (hx : 0 ≤ x ∧ x ≤ 18) (K : vK X cX7_getDelay 3 RX7 wsX7_getDelay ({ frames := 1, cells := 0, slots := 0, locals := 23 } : Room)) (hret : ∀ (z : Int) (ν : Mem), (fun (z : Int) (ν : Mem) => z = dly μ r x ∧ ν = μ) z ν → ∀ n pc k1 k2 lv, k1 ≤ 0 → k2 ≤ 0 → decode cX7_getDelay pc = .ok (.ireturn, 1) → vW X n pc k1 k2 lv [.int (iZ z)] ν) : vW X 3 0 0 0 [(0, .ref (vAd X 0)), (1, .int (iZ (r : Int))), (2, .int (iZ x))] [] μ := by
  have hrc := hW.rc8
  have htl := hW.tl (r := r) (by omega)
  refine v_aload_n 0 K dX7_getDelay_0 rfl ?_
  refine v_iload_n 1 K dX7_getDelay_1 rfl ?_
  refine v_callVvr (c := 0) (As := [.int (iZ (r : Int))]) (rest := []) K isO_SJ rfl 1 (c_X7_checkResource X.1.2.1 K.2.2.2.2.2.2 _ _ _ μ (r : Int) (by omega) (by omega)) gX7_getDelay_X7_checkResource rfl rfl rfl (by decide +kernel) ⟨(Nat.le_of_ble_eq_true rfl), (Nat.le_of_ble_eq_true rfl)⟩ rfl rfl (Nat.le_of_ble_eq_true rfl) dX7_getDelay_2 ⟨(Nat.le_of_ble_eq_true rfl), (Nat.le_of_ble_eq_true rfl)⟩ ?_
  refine v_aload_n 0 K dX7_getDelay_5 rfl ?_
  refine v_iload_n 2 K dX7_getDelay_6 rfl ?_
  refine v_iconst K dX7_getDelay_7 ?_
  refine v_bipush K dX7_getDelay_8 (by decide) ?_
  refine v_callVvr (c := 0) (As := [.int (iZ x), .int (iZ 0), .int (iZ 18)]) (rest := []) K isO_SJ rfl 3 (c_X7_checkRange X.1.2.1 K.2.2.2.2.2.2 _ _ _ μ x 0 18 hx (by omega)) gX7_getDelay_X7_checkRange rfl rfl rfl (by decide +kernel) ⟨(Nat.le_of_ble_eq_true rfl), (Nat.le_of_ble_eq_true rfl)⟩ rfl rfl (Nat.le_of_ble_eq_true rfl) dX7_getDelay_10 ⟨(Nat.le_of_ble_eq_true rfl), (Nat.le_of_ble_eq_true rfl)⟩ ?_
  refine v_aload_n 0 K dX7_getDelay_13 rfl ?_
  refine v_get (c := 0) (k := 0) (C := RX7) (T := TX7) (N := 7) (v := .ref (vAd X 1)) K isO_SJ rfl (fun _ h => (List.mem_cons_of_mem _ (List.mem_append_left _ (List.mem_append_left _ (List.mem_append_left _ (List.mem_append_left _ (List.mem_append_left _ (List.mem_append_right _ h)))))))) (by decide) (List.mem_cons_of_mem _ (List.mem_append_left _ (List.mem_append_left _ (List.mem_append_left _ (List.mem_append_left _ (List.mem_append_left _ (List.mem_append_left _ (List.mem_of_getElem? (i := 0) rfl)))))))) rfl dX7_getDelay_14 rfl ?_
  refine v_get (c := 1) (k := 0) (C := RX0) (T := TX0) (N := 4) (v := .ref (vAd X 19)) K isO_Bd rfl (fun _ h => (List.mem_cons_of_mem _ (List.mem_append_left _ (List.mem_append_left _ (List.mem_append_left _ (List.mem_append_left _ (List.mem_append_right _ h))))))) (by decide) (List.mem_cons_of_mem _ (List.mem_append_left _ (List.mem_append_left _ (List.mem_append_left _ (List.mem_append_left _ (List.mem_append_left _ (List.mem_append_left _ (List.mem_of_getElem? (i := 1) rfl)))))))) rfl dX7_getDelay_17 rfl ?_
  refine v_iload_n 1 K dX7_getDelay_20 rfl ?_
  refine v_aald (c := 19) r K isQ_Rs rfl rfl (by omega) dX7_getDelay_21 ?_
  refine v_iload_n 2 K dX7_getDelay_22 rfl ?_
  refine v_callVir (c := (21 + r)) (As := [.int (iZ x)]) (rest := []) K (isO_Rs (r := r) (by omega)) rfl 1 (c_X5_delayBy X.1.2.1 K.2.2.2.2.2.2 _ _ _ μ r x (by omega) (by omega)) gX7_getDelay_X5_delayBy rfl rfl rfl (by decide +kernel) ⟨(Nat.le_of_ble_eq_true rfl), (Nat.le_of_ble_eq_true rfl)⟩ rfl rfl (Nat.le_of_ble_eq_true rfl) dX7_getDelay_23 ⟨(Nat.le_of_ble_eq_true rfl), (Nat.le_of_ble_eq_true rfl)⟩ ?_
  exact hret _ _ ⟨rfl, rfl⟩ _ _ _ _ _ (Nat.le_of_ble_eq_true rfl) (Nat.le_of_ble_eq_true rfl) dX7_getDelay_26
theorem c_X7_getDelay (l : Launch) (hl : l.stackTraces = false) (D : va_G) (cy : Nat → ClassId) (ad : Nat → Nat) (μ : Mem) (r : Nat) (x : Int) (hW : WF μ) (hr : r < rc μ) (hx : 0 ≤ x ∧ x ≤ 18) : cI l yX7_getDelay wsX7_getDelay ({ frames := 1, cells := 0, slots := 0, locals := 23 } : Room) D cy ad μ [.ref (ad 0), .int (iZ (r : Int)), .int (iZ x)] (fun (z : Int) (ν : Mem) => z = dly μ r x ∧ ν = μ) :=
  m_int (av := (fun ad => [.ref (ad 0), .int (iZ (r : Int)), .int (iZ x)])) hl (by decide) rfl rfl (Nat.le_of_ble_eq_true rfl) (fun _ _ _ => rfl) (fun X K hret => b_X7_getDelay r x hW hr hx K hret)
