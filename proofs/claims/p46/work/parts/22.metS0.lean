theorem dX6_admit_0 : decode cX6_admit 0 = .ok (.aload_n 0, 1) := by decide +kernel
theorem dX6_admit_1 : decode cX6_admit 1 = .ok (.getfield 9, 3) := by decide +kernel
theorem dX6_admit_4 : decode cX6_admit 4 = .ok (.iload_n 1, 1) := by decide +kernel
theorem dX6_admit_5 : decode cX6_admit 5 = .ok (.iaload, 1) := by decide +kernel
theorem dX6_admit_6 : decode cX6_admit 6 = .ok (.istore_n 3, 1) := by decide +kernel
theorem dX6_admit_7 : decode cX6_admit 7 = .ok (.aload_n 0, 1) := by decide +kernel
theorem dX6_admit_8 : decode cX6_admit 8 = .ok (.getfield 18, 3) := by decide +kernel
theorem dX6_admit_11 : decode cX6_admit 11 = .ok (.iload_n 1, 1) := by decide +kernel
theorem dX6_admit_12 : decode cX6_admit 12 = .ok (.iconst 5, 1) := by decide +kernel
theorem dX6_admit_13 : decode cX6_admit 13 = .ok (.imul, 1) := by decide +kernel
theorem dX6_admit_14 : decode cX6_admit 14 = .ok (.iload_n 3, 1) := by decide +kernel
theorem dX6_admit_15 : decode cX6_admit 15 = .ok (.iadd, 1) := by decide +kernel
theorem dX6_admit_16 : decode cX6_admit 16 = .ok (.iload_n 2, 1) := by decide +kernel
theorem dX6_admit_17 : decode cX6_admit 17 = .ok (.iastore, 1) := by decide +kernel
theorem dX6_admit_18 : decode cX6_admit 18 = .ok (.iload_n 2, 1) := by decide +kernel
theorem dX6_admit_19 : decode cX6_admit 19 = .ok (.ifCond .lt 14, 3) := by decide +kernel
theorem dX6_admit_33 : decode cX6_admit 33 = .ok (.aload_n 0, 1) := by decide +kernel
theorem dX6_admit_34 : decode cX6_admit 34 = .ok (.getfield 9, 3) := by decide +kernel
theorem dX6_admit_37 : decode cX6_admit 37 = .ok (.iload_n 1, 1) := by decide +kernel
theorem dX6_admit_38 : decode cX6_admit 38 = .ok (.dup2, 1) := by decide +kernel
theorem dX6_admit_39 : decode cX6_admit 39 = .ok (.iaload, 1) := by decide +kernel
theorem dX6_admit_40 : decode cX6_admit 40 = .ok (.iconst 1, 1) := by decide +kernel
theorem dX6_admit_41 : decode cX6_admit 41 = .ok (.iadd, 1) := by decide +kernel
theorem dX6_admit_42 : decode cX6_admit 42 = .ok (.iastore, 1) := by decide +kernel
theorem dX6_admit_43 : decode cX6_admit 43 = .ok (.return_, 1) := by decide +kernel
theorem dX6_admit_22 : decode cX6_admit 22 = .ok (.aload_n 0, 1) := by decide +kernel
theorem dX6_admit_23 : decode cX6_admit 23 = .ok (.getfield 21, 3) := by decide +kernel
theorem dX6_admit_26 : decode cX6_admit 26 = .ok (.iload_n 1, 1) := by decide +kernel
theorem dX6_admit_27 : decode cX6_admit 27 = .ok (.iconst 5, 1) := by decide +kernel
theorem dX6_admit_28 : decode cX6_admit 28 = .ok (.imul, 1) := by decide +kernel
theorem dX6_admit_29 : decode cX6_admit 29 = .ok (.iload_n 2, 1) := by decide +kernel
theorem dX6_admit_30 : decode cX6_admit 30 = .ok (.iadd, 1) := by decide +kernel
theorem dX6_admit_31 : decode cX6_admit 31 = .ok (.iload_n 3, 1) := by decide +kernel
theorem dX6_admit_32 : decode cX6_admit 32 = .ok (.iastore, 1) := by decide +kernel
set_option maxHeartbeats 4000000 in
set_option maxRecDepth 100000 in
theorem b_X6_admit {X : VC} {μ : Mem} (p : Nat) (w : Int) (hp : p < 6) (hw : -1 ≤ w ∧ w ≤ 4) (hs : 0 ≤ μ 9 p ∧ μ 9 p < 5) (K : vK X cX6_admit 4 RX6 wsX6_admit ({ frames := 0, cells := 0, slots := 0, locals := 0 } : Room)) (hret : ∀ (ν : Mem), (fun (ν : Mem) => ADM μ ν p w) ν → ∀ n pc k1 k2 lv, k1 ≤ 0 → k2 ≤ 0 → decode cX6_admit pc = .ok (.return_, 1) → vW X n pc k1 k2 lv [] ν) : vW X 4 0 0 0 [(0, .ref (vAd X 4)), (1, .int (iZ (p : Int))), (2, .int (iZ w))] [] μ := by
  obtain ⟨s, hs0⟩ := nat_of hs.1
  refine v_aload_n 0 K dX6_admit_0 rfl ?_
  refine v_get (c := 4) (k := 0) (C := RX6) (T := TX6) (N := 13) (v := .ref (vAd X 9)) K isO_Sv rfl (fun _ h => (List.mem_cons_of_mem _ (List.mem_append_left _ (List.mem_append_right _ h)))) (by decide) (List.mem_cons_of_mem _ (List.mem_append_left _ (List.mem_append_left _ (List.mem_of_getElem? (i := 0) rfl)))) rfl dX6_admit_1 rfl ?_
  refine v_iload_n 1 K dX6_admit_4 rfl ?_
  refine v_iald (c := 9) p K isI_9 rfl (by omega) dX6_admit_5 ?_
  refine v_top (b := (s : Int)) (by rw [hs0]) ?_
  refine v_istore_n [(3, .int (iZ (s : Int))), (0, .ref (vAd X 4)), (1, .int (iZ (p : Int))), (2, .int (iZ w))] K dX6_admit_6 (by decide) rfl ?_
  refine v_aload_n 1 K dX6_admit_7 rfl ?_
  refine v_get (c := 4) (k := 2) (C := RX6) (T := TX6) (N := 13) (v := .ref (vAd X 11)) K isO_Sv rfl (fun _ h => (List.mem_cons_of_mem _ (List.mem_append_left _ (List.mem_append_right _ h)))) (by decide) (List.mem_cons_of_mem _ (List.mem_append_left _ (List.mem_append_left _ (List.mem_of_getElem? (i := 1) rfl)))) rfl dX6_admit_8 rfl ?_
  refine v_iload_n 2 K dX6_admit_11 rfl ?_
  refine v_iconst K dX6_admit_12 ?_
  refine v_imul K dX6_admit_13 ?_
  refine v_iload_n 0 K dX6_admit_14 rfl ?_
  refine v_iadd K dX6_admit_15 ?_
  refine v_iload_n 3 K dX6_admit_16 rfl ?_
  refine v_iast (c := 11) ((p * 5) + s) K isI_11 (by omega) (by omega) dX6_admit_17 ?_
  obtain ⟨μ1, eμ1⟩ : ∃ μ1 : Mem, μ1 = (upM μ 11 ((p * 5) + s) w) := ⟨_, rfl⟩
  rw [← eμ1]
  refine v_iload_n 3 K dX6_admit_18 rfl ?_
  refine v_if_lt 33 K dX6_admit_19 (by decide) (by omega) (fun c19 => ?_) (fun c19 => ?_)
  · refine v_aload_n 1 K dX6_admit_33 rfl ?_
    refine v_get (c := 4) (k := 0) (C := RX6) (T := TX6) (N := 13) (v := .ref (vAd X 9)) K isO_Sv rfl (fun _ h => (List.mem_cons_of_mem _ (List.mem_append_left _ (List.mem_append_right _ h)))) (by decide) (List.mem_cons_of_mem _ (List.mem_append_left _ (List.mem_append_left _ (List.mem_of_getElem? (i := 0) rfl)))) rfl dX6_admit_34 rfl ?_
    refine v_iload_n 2 K dX6_admit_37 rfl ?_
    refine v_dup2 rfl rfl K dX6_admit_38 ?_
    refine v_iald (c := 9) p K isI_9 rfl (by omega) dX6_admit_39 ?_
    refine v_top (b := (s : Int)) (by rw [eμ1, upM_off (by omega)]; rw [hs0]) ?_
    refine v_iconst K dX6_admit_40 ?_
    refine v_iadd K dX6_admit_41 ?_
    refine v_iast (c := 9) p K isI_9 rfl (by omega) dX6_admit_42 ?_
    obtain ⟨μ3, eμ3⟩ : ∃ μ3 : Mem, μ3 = (upM μ1 9 p ((s : Int) + 1)) := ⟨_, rfl⟩
    rw [← eμ3]
    exact hret _ (ADM_of0 hs0 (by omega) eμ1 eμ3) _ _ _ _ _ (Nat.le_of_ble_eq_true rfl) (Nat.le_of_ble_eq_true rfl) dX6_admit_43
  · refine v_aload_n 1 K dX6_admit_22 rfl ?_
    refine v_get (c := 4) (k := 3) (C := RX6) (T := TX6) (N := 13) (v := .ref (vAd X 12)) K isO_Sv rfl (fun _ h => (List.mem_cons_of_mem _ (List.mem_append_left _ (List.mem_append_right _ h)))) (by decide) (List.mem_cons_of_mem _ (List.mem_append_left _ (List.mem_append_left _ (List.mem_of_getElem? (i := 2) rfl)))) rfl dX6_admit_23 rfl ?_
    refine v_iload_n 2 K dX6_admit_26 rfl ?_
    refine v_iconst K dX6_admit_27 ?_
    refine v_imul K dX6_admit_28 ?_
    refine v_iload_n 3 K dX6_admit_29 rfl ?_
    refine v_iadd K dX6_admit_30 ?_
    refine v_iload_n 0 K dX6_admit_31 rfl ?_
    refine v_iast (c := 12) (((((p : Int) * 5) + w)).toNat) K isI_12 (by omega) (by omega) dX6_admit_32 ?_
    obtain ⟨μ2, eμ2⟩ : ∃ μ2 : Mem, μ2 = (upM μ1 12 (((((p : Int) * 5) + w)).toNat) (s : Int)) := ⟨_, rfl⟩
    rw [← eμ2]
    refine v_aload_n 1 K dX6_admit_33 rfl ?_
    refine v_get (c := 4) (k := 0) (C := RX6) (T := TX6) (N := 13) (v := .ref (vAd X 9)) K isO_Sv rfl (fun _ h => (List.mem_cons_of_mem _ (List.mem_append_left _ (List.mem_append_right _ h)))) (by decide) (List.mem_cons_of_mem _ (List.mem_append_left _ (List.mem_append_left _ (List.mem_of_getElem? (i := 0) rfl)))) rfl dX6_admit_34 rfl ?_
    refine v_iload_n 2 K dX6_admit_37 rfl ?_
    refine v_dup2 rfl rfl K dX6_admit_38 ?_
    refine v_iald (c := 9) p K isI_9 rfl (by omega) dX6_admit_39 ?_
    refine v_top (b := (s : Int)) (by rw [eμ2, upM_off (by omega), eμ1, upM_off (by omega)]; rw [hs0]) ?_
    refine v_iconst K dX6_admit_40 ?_
    refine v_iadd K dX6_admit_41 ?_
    refine v_iast (c := 9) p K isI_9 rfl (by omega) dX6_admit_42 ?_
    obtain ⟨μ3, eμ3⟩ : ∃ μ3 : Mem, μ3 = (upM μ2 9 p ((s : Int) + 1)) := ⟨_, rfl⟩
    rw [← eμ3]
    exact hret _ (ADM_of1 hs0 (by omega) eμ1 eμ2 eμ3) _ _ _ _ _ (Nat.le_of_ble_eq_true rfl) (Nat.le_of_ble_eq_true rfl) dX6_admit_43
theorem c_X6_admit (l : Launch) (hl : l.stackTraces = false) (D : va_G) (cy : Nat → ClassId) (ad : Nat → Nat) (μ : Mem) (p : Nat) (w : Int) (hp : p < 6) (hw : -1 ≤ w ∧ w ≤ 4) (hs : 0 ≤ μ 9 p ∧ μ 9 p < 5) : cV l yX6_admit wsX6_admit ({ frames := 0, cells := 0, slots := 0, locals := 0 } : Room) D cy ad μ [.ref (ad 4), .int (iZ (p : Int)), .int (iZ w)] (fun (ν : Mem) => ADM μ ν p w) :=
  m_void (av := (fun ad => [.ref (ad 4), .int (iZ (p : Int)), .int (iZ w)])) hl (by decide) rfl rfl (Nat.le_of_ble_eq_true rfl) (fun X K hret => b_X6_admit p w hp hw hs K hret)
theorem dX6_number_0 : decode cX6_number 0 = .ok (.aload_n 0, 1) := by decide +kernel
theorem dX6_number_1 : decode cX6_number 1 = .ok (.getfield 45, 3) := by decide +kernel
theorem dX6_number_4 : decode cX6_number 4 = .ok (.aload_n 2, 1) := by decide +kernel
theorem dX6_number_5 : decode cX6_number 5 = .ok (.getfield 49, 3) := by decide +kernel
theorem dX6_number_8 : decode cX6_number 8 = .ok (.putfield 49, 3) := by decide +kernel
theorem dX6_number_11 : decode cX6_number 11 = .ok (.aload_n 0, 1) := by decide +kernel
theorem dX6_number_12 : decode cX6_number 12 = .ok (.iconst 1, 1) := by decide +kernel
theorem dX6_number_13 : decode cX6_number 13 = .ok (.putfield 53, 3) := by decide +kernel
theorem dX6_number_16 : decode cX6_number 16 = .ok (.aload_n 1, 1) := by decide +kernel
theorem dX6_number_17 : decode cX6_number 17 = .ok (.getfield 56, 3) := by decide +kernel
theorem dX6_number_20 : decode cX6_number 20 = .ok (.iconst 1, 1) := by decide +kernel
theorem dX6_number_21 : decode cX6_number 21 = .ok (.isub, 1) := by decide +kernel
theorem dX6_number_22 : decode cX6_number 22 = .ok (.istore_n 3, 1) := by decide +kernel
theorem dX6_number_23 : decode cX6_number 23 = .ok (.iload_n 3, 1) := by decide +kernel
theorem dX6_number_27 : decode cX6_number 27 = .ok (.aload_n 0, 1) := by decide +kernel
theorem dX6_number_28 : decode cX6_number 28 = .ok (.getfield 9, 3) := by decide +kernel
theorem dX6_number_31 : decode cX6_number 31 = .ok (.iload_n 3, 1) := by decide +kernel
theorem dX6_number_32 : decode cX6_number 32 = .ok (.iconst 0, 1) := by decide +kernel
theorem dX6_number_33 : decode cX6_number 33 = .ok (.iastore, 1) := by decide +kernel
theorem dX6_number_34 : decode cX6_number 34 = .ok (.aload_n 0, 1) := by decide +kernel
theorem dX6_number_35 : decode cX6_number 35 = .ok (.getfield 15, 3) := by decide +kernel
theorem dX6_number_38 : decode cX6_number 38 = .ok (.iload_n 3, 1) := by decide +kernel
theorem dX6_number_39 : decode cX6_number 39 = .ok (.aload_n 0, 1) := by decide +kernel
theorem dX6_number_40 : decode cX6_number 40 = .ok (.getfield 53, 3) := by decide +kernel
theorem dX6_number_43 : decode cX6_number 43 = .ok (.iastore, 1) := by decide +kernel
theorem dX6_number_44 : decode cX6_number 44 = .ok (.aload_n 1, 1) := by decide +kernel
theorem dX6_number_45 : decode cX6_number 45 = .ok (.aload_n 2, 1) := by decide +kernel
theorem dX6_number_46 : decode cX6_number 46 = .ok (.iload_n 3, 1) := by decide +kernel
theorem dX6_number_47 : decode cX6_number 47 = .ok (.invokevirtual 61, 3) := by decide +kernel
set_option maxRecDepth 20000 in
theorem ggX6_number_X0_isAsked : GoodIn wsX6_number wsX0_isAsked := goodIn_ca (goodIn_r _ [14, 15, 16, 17, 53, 54, 55, 56, 57, 58, 59, 60, 61, 62, 50, 51, 52] (by decide +kernel) (by decide +kernel)) (goodIn_sub (fun _ h => List.mem_cons_of_mem _ (List.mem_append_right _ h)) (by decide +kernel))
set_option maxRecDepth 20000 in
theorem gX6_number_X0_isAsked : GoodIn wsX6_number (wsV RX6 61 RX0 yX0_isAsked wsX0_isAsked) := goodIn_app (goodIn_of _ (by decide +kernel)) ggX6_number_X0_isAsked
theorem dX6_number_50 : decode cX6_number 50 = .ok (.ifCond .eq 47, 3) := by decide +kernel
theorem dX6_number_97 : decode cX6_number 97 = .ok (.aload_n 0, 1) := by decide +kernel
theorem dX6_number_98 : decode cX6_number 98 = .ok (.iload_n 3, 1) := by decide +kernel
theorem dX6_number_99 : decode cX6_number 99 = .ok (.aload_n 2, 1) := by decide +kernel
theorem dX6_number_100 : decode cX6_number 100 = .ok (.getfield 82, 3) := by decide +kernel
theorem dX6_number_103 : decode cX6_number 103 = .ok (.iload_n 3, 1) := by decide +kernel
theorem dX6_number_104 : decode cX6_number 104 = .ok (.iaload, 1) := by decide +kernel
theorem dX6_number_105 : decode cX6_number 105 = .ok (.invokevirtual 78, 3) := by decide +kernel
set_option maxRecDepth 20000 in
theorem ggX6_number_X6_admit : GoodIn wsX6_number wsX6_admit := goodIn_ca (goodIn_r _ [34, 5, 35, 36, 37, 38, 39, 40, 41, 42, 43, 44, 45, 46, 47, 48, 49] (by decide +kernel) (by decide +kernel)) (goodIn_sub (fun _ h => List.mem_cons_of_mem _ (List.mem_append_right _ h)) (by decide +kernel))
set_option maxRecDepth 20000 in
theorem gX6_number_X6_admit : GoodIn wsX6_number (wsV RX6 78 RX6 yX6_admit wsX6_admit) := goodIn_app (goodIn_of _ (by decide +kernel)) ggX6_number_X6_admit
theorem dX6_number_108 : decode cX6_number 108 = .ok (.aload_n 0, 1) := by decide +kernel
theorem dX6_number_109 : decode cX6_number 109 = .ok (.dup, 1) := by decide +kernel
theorem dX6_number_110 : decode cX6_number 110 = .ok (.getfield 53, 3) := by decide +kernel
theorem dX6_number_113 : decode cX6_number 113 = .ok (.aload_n 0, 1) := by decide +kernel
theorem dX6_number_114 : decode cX6_number 114 = .ok (.getfield 9, 3) := by decide +kernel
theorem dX6_number_117 : decode cX6_number 117 = .ok (.iload_n 3, 1) := by decide +kernel
theorem dX6_number_118 : decode cX6_number 118 = .ok (.iaload, 1) := by decide +kernel
theorem dX6_number_119 : decode cX6_number 119 = .ok (.imul, 1) := by decide +kernel
theorem dX6_number_120 : decode cX6_number 120 = .ok (.putfield 53, 3) := by decide +kernel
theorem dX6_number_123 : decode cX6_number 123 = .ok (.iinc 3 (-1), 3) := by decide +kernel
theorem dX6_number_126 : decode cX6_number 126 = .ok (.goto (-103), 3) := by decide +kernel
theorem dX6_number_53 : decode cX6_number 53 = .ok (.iconst 0, 1) := by decide +kernel
theorem dX6_number_54 : decode cX6_number 54 = .ok (.istore 4, 2) := by decide +kernel
theorem dX6_number_56 : decode cX6_number 56 = .ok (.iload 4, 2) := by decide +kernel
theorem dX6_number_58 : decode cX6_number 58 = .ok (.aload_n 1, 1) := by decide +kernel
theorem dX6_number_59 : decode cX6_number 59 = .ok (.getfield 65, 3) := by decide +kernel
theorem dX6_number_62 : decode cX6_number 62 = .ok (.iload_n 3, 1) := by decide +kernel
theorem dX6_number_63 : decode cX6_number 63 = .ok (.aaload, 1) := by decide +kernel
theorem dX6_number_64 : decode cX6_number 64 = .ok (.getfield 69, 3) := by decide +kernel
theorem dX6_number_67 : decode cX6_number 67 = .ok (.if_icmp .ge 27, 3) := by decide +kernel
theorem dX6_number_94 : decode cX6_number 94 = .ok (.goto 14, 3) := by decide +kernel
theorem dX6_number_70 : decode cX6_number 70 = .ok (.aload_n 1, 1) := by decide +kernel
theorem dX6_number_71 : decode cX6_number 71 = .ok (.aload_n 2, 1) := by decide +kernel
theorem dX6_number_72 : decode cX6_number 72 = .ok (.iload_n 3, 1) := by decide +kernel
theorem dX6_number_73 : decode cX6_number 73 = .ok (.iload 4, 2) := by decide +kernel
theorem dX6_number_75 : decode cX6_number 75 = .ok (.invokevirtual 74, 3) := by decide +kernel
set_option maxRecDepth 20000 in
theorem ggX6_number_X0_isOpen : GoodIn wsX6_number wsX0_isOpen := goodIn_ca (goodIn_r _ [21, 15, 22, 23, 24, 25, 26, 27, 28, 29, 53, 54, 55, 56, 50, 51, 52, 57, 58, 59, 60, 61, 62] (by decide +kernel) (by decide +kernel)) (goodIn_sub (fun _ h => List.mem_cons_of_mem _ (List.mem_append_right _ h)) (by decide +kernel))
set_option maxRecDepth 20000 in
theorem gX6_number_X0_isOpen : GoodIn wsX6_number (wsV RX6 74 RX0 yX0_isOpen wsX0_isOpen) := goodIn_app (goodIn_of _ (by decide +kernel)) ggX6_number_X0_isOpen
theorem dX6_number_78 : decode cX6_number 78 = .ok (.ifCond .eq 10, 3) := by decide +kernel
theorem dX6_number_81 : decode cX6_number 81 = .ok (.aload_n 0, 1) := by decide +kernel
theorem dX6_number_82 : decode cX6_number 82 = .ok (.iload_n 3, 1) := by decide +kernel
theorem dX6_number_83 : decode cX6_number 83 = .ok (.iload 4, 2) := by decide +kernel
theorem dX6_number_85 : decode cX6_number 85 = .ok (.invokevirtual 78, 3) := by decide +kernel
theorem dX6_number_88 : decode cX6_number 88 = .ok (.iinc 4 1, 3) := by decide +kernel
theorem dX6_number_91 : decode cX6_number 91 = .ok (.goto (-35), 3) := by decide +kernel
theorem dX6_number_24 : decode cX6_number 24 = .ok (.ifCond .lt 105, 3) := by decide +kernel
theorem dX6_number_129 : decode cX6_number 129 = .ok (.return_, 1) := by decide +kernel
set_option maxHeartbeats 4000000 in
set_option maxRecDepth 100000 in
theorem b_X6_number {X : VC} {μ : Mem} (hW : WF μ) (hL : PL μ 0) (hw3 : LW μ) (K : vK X cX6_number 5 RX6 wsX6_number ({ frames := 2, cells := 0, slots := 0, locals := 44 } : Room)) (hret : ∀ (ν : Mem), (fun (ν : Mem) => NB μ ν) ν → ∀ n pc k1 k2 lv, k1 ≤ 0 → k2 ≤ 0 → decode cX6_number pc = .ok (.return_, 1) → vW X n pc k1 k2 lv [] ν) : vW X 5 0 0 0 [(0, .ref (vAd X 4)), (1, .ref (vAd X 1)), (2, .ref (vAd X (2 + 0)))] [] μ := by
  have hpc := hW.pc6
  have hcl := hL.2.2
  have hB := hL.PB9 hW
  refine v_aload_n 0 K dX6_number_0 rfl ?_
  refine v_get (c := 4) (k := 10) (C := RX6) (T := TX6) (N := 13) (v := .ref (vAd X (2 + 1))) K isO_Sv rfl (fun _ h => (List.mem_cons_of_mem _ (List.mem_append_left _ (List.mem_append_left _ (List.mem_append_left _ (List.mem_append_left _ (List.mem_append_right _ h))))))) (by decide) (List.mem_cons_of_mem _ (List.mem_append_left _ (List.mem_append_left _ (List.mem_append_left _ (List.mem_append_left _ (List.mem_append_left _ (List.mem_append_left _ (List.mem_of_getElem? (i := 0) rfl)))))))) rfl dX6_number_1 rfl ?_
  refine v_aload_n 2 K dX6_number_4 rfl ?_
  refine v_get (c := (2 + 0)) (k := 2) (C := RX3) (T := TX3) (N := 3) (v := .int (iZ (μ (2 + 0) 2))) K (isO_Pl (y := 0) (by omega)) rfl (fun _ h => (List.mem_cons_of_mem _ (List.mem_append_left _ (List.mem_append_left _ (List.mem_append_left _ (List.mem_append_right _ h)))))) (by decide) (List.mem_cons_of_mem _ (List.mem_append_left _ (List.mem_append_left _ (List.mem_append_left _ (List.mem_append_left _ (List.mem_append_left _ (List.mem_append_left _ (List.mem_of_getElem? (i := 1) rfl)))))))) rfl dX6_number_5 rfl ?_
  refine v_top (b := 0) (by rw [hcl]) ?_
  refine v_put (c := (2 + 1)) (k := 2) (C := RX3) (T := TX3) (N := 3) (ty := .int) K (isO_Pl (y := 1) (by omega)) rfl (fun _ h => (List.mem_cons_of_mem _ (List.mem_append_left _ (List.mem_append_left _ (List.mem_append_left _ (List.mem_append_right _ h)))))) tyX3_ok nmX3 (by decide) (List.mem_cons_of_mem _ (List.mem_append_left _ (List.mem_append_left _ (List.mem_append_left _ (List.mem_append_left _ (List.mem_append_left _ (List.mem_append_left _ (List.mem_of_getElem? (i := 1) rfl)))))))) rfl rfl (by decide +kernel) dX6_number_8 (fun _ _ _ => rfl) (fun _ _ => Nat.le_of_ble_eq_true rfl) rfl rfl ?_
  obtain ⟨μ1, eμ1⟩ : ∃ μ1 : Mem, μ1 = (upM μ (2 + 1) 2 0) := ⟨_, rfl⟩
  rw [← eμ1]
  refine v_aload_n 0 K dX6_number_11 rfl ?_
  refine v_iconst K dX6_number_12 ?_
  refine v_put (c := 4) (k := 11) (C := RX6) (T := TX6) (N := 13) (ty := .int) K isO_Sv rfl (fun _ h => (List.mem_cons_of_mem _ (List.mem_append_left _ (List.mem_append_left _ (List.mem_append_left _ (List.mem_append_left _ (List.mem_append_right _ h))))))) tyX6_ok nmX6 (by decide) (List.mem_cons_of_mem _ (List.mem_append_left _ (List.mem_append_left _ (List.mem_append_left _ (List.mem_append_left _ (List.mem_append_left _ (List.mem_append_left _ (List.mem_of_getElem? (i := 2) rfl)))))))) rfl rfl (by decide +kernel) dX6_number_13 (fun _ _ _ => rfl) (fun _ _ => Nat.le_of_ble_eq_true rfl) rfl rfl ?_
  obtain ⟨μ2, eμ2⟩ : ∃ μ2 : Mem, μ2 = (upM μ1 4 11 1) := ⟨_, rfl⟩
  rw [← eμ2]
  refine v_aload_n 1 K dX6_number_16 rfl ?_
  refine v_get (c := 1) (k := 3) (C := RX0) (T := TX0) (N := 4) (v := .int (iZ (μ2 1 3))) K isO_Bd rfl (fun _ h => (List.mem_cons_of_mem _ (List.mem_append_left _ (List.mem_append_left _ (List.mem_append_right _ h))))) (by decide) (List.mem_cons_of_mem _ (List.mem_append_left _ (List.mem_append_left _ (List.mem_append_left _ (List.mem_append_left _ (List.mem_append_left _ (List.mem_append_left _ (List.mem_of_getElem? (i := 3) rfl)))))))) rfl dX6_number_17 rfl ?_
  refine v_top (b := ((pcn μ : Nat) : Int)) (by rw [eμ2, upM_off (by omega), eμ1, upM_off (by omega)]; exact congrArg iZ hpc.2) ?_
  refine v_iconst K dX6_number_20 ?_
  refine v_isub K dX6_number_21 ?_
  refine v_istore_n [(3, .int (iZ (((pcn μ : Nat) : Int) - 1))), (0, .ref (vAd X 4)), (1, .ref (vAd X 1)), (2, .ref (vAd X (2 + 0)))] K dX6_number_22 (by decide) rfl ?_
  have L23 : ∀ (fuel : Nat) (i : Nat) (ν : Mem) (hm : 7 - i < fuel) (hi : i ≤ pcn μ) (hN : NBl μ ν i), vW X 5 23 0 0 [(0, .ref (vAd X 4)), (1, .ref (vAd X 1)), (2, .ref (vAd X (2 + 0))), (3, .int (iZ ((((pcn μ : Nat) : Int) - 1) - (i : Int))))] [] ν := by
    intro fuel
    induction fuel with
    | zero => intro i ν hm; exact absurd hm (Nat.not_lt_zero _)
    | succ fuel ih23 =>
      intro i ν hm hi hN
      refine v_iload_n 3 K dX6_number_23 rfl ?_
      have L27 : ∀ (p : Nat) (hp : p + i + 1 = pcn μ), vW X 5 27 0 0 [(0, .ref (vAd X 4)), (1, .ref (vAd X 1)), (2, .ref (vAd X (2 + 0))), (3, .int (iZ (p : Int)))] [] ν := by
        intro p hp
        have hAG := NBl_AG hN
        have hch := (hL.1 p (by omega)).2
        have hlw := hw3 p (by omega)
        have hak := ask_01 μ 0 p
        have hWν : WF ν := AB.WF9 hAG.1 hW
        have hBν := hAG.PB9 hB
        refine v_aload_n 0 K dX6_number_27 rfl ?_
        refine v_get (c := 4) (k := 0) (C := RX6) (T := TX6) (N := 13) (v := .ref (vAd X 9)) K isO_Sv rfl (fun _ h => (List.mem_cons_of_mem _ (List.mem_append_left _ (List.mem_append_left _ (List.mem_append_left _ (List.mem_append_left _ (List.mem_append_right _ h))))))) (by decide) (List.mem_cons_of_mem _ (List.mem_append_left _ (List.mem_append_left _ (List.mem_append_left _ (List.mem_append_left _ (List.mem_append_left _ (List.mem_append_left _ (List.mem_of_getElem? (i := 4) rfl)))))))) rfl dX6_number_28 rfl ?_
        refine v_iload_n 3 K dX6_number_31 rfl ?_
        refine v_iconst K dX6_number_32 ?_
        refine v_iast (c := 9) p K isI_9 rfl (by omega) dX6_number_33 ?_
        obtain ⟨ν1, eν1⟩ : ∃ ν1 : Mem, ν1 = (upM ν 9 p 0) := ⟨_, rfl⟩
        rw [← eν1]
        refine v_aload_n 0 K dX6_number_34 rfl ?_
        refine v_get (c := 4) (k := 1) (C := RX6) (T := TX6) (N := 13) (v := .ref (vAd X 10)) K isO_Sv rfl (fun _ h => (List.mem_cons_of_mem _ (List.mem_append_left _ (List.mem_append_left _ (List.mem_append_left _ (List.mem_append_left _ (List.mem_append_right _ h))))))) (by decide) (List.mem_cons_of_mem _ (List.mem_append_left _ (List.mem_append_left _ (List.mem_append_left _ (List.mem_append_left _ (List.mem_append_left _ (List.mem_append_left _ (List.mem_of_getElem? (i := 5) rfl)))))))) rfl dX6_number_35 rfl ?_
        refine v_iload_n 3 K dX6_number_38 rfl ?_
        refine v_aload_n 0 K dX6_number_39 rfl ?_
        refine v_get (c := 4) (k := 11) (C := RX6) (T := TX6) (N := 13) (v := .int (iZ (ν1 4 11))) K isO_Sv rfl (fun _ h => (List.mem_cons_of_mem _ (List.mem_append_left _ (List.mem_append_left _ (List.mem_append_left _ (List.mem_append_left _ (List.mem_append_right _ h))))))) (by decide) (List.mem_cons_of_mem _ (List.mem_append_left _ (List.mem_append_left _ (List.mem_append_left _ (List.mem_append_left _ (List.mem_append_left _ (List.mem_append_left _ (List.mem_of_getElem? (i := 2) rfl)))))))) rfl dX6_number_40 rfl ?_
        refine v_top (b := (pdI μ i)) (by rw [eν1, upM_off (by omega), hN.2.2.2.2.1]) ?_
        refine v_iast (c := 10) p K isI_10 rfl (by omega) dX6_number_43 ?_
        obtain ⟨ν2, eν2⟩ : ∃ ν2 : Mem, ν2 = (upM ν1 10 p (pdI μ i)) := ⟨_, rfl⟩
        rw [← eν2]
        have hn2 : ∀ c, c ≠ 9 → c ≠ 10 → ν2 c = ν c := fun c c1 c2 => by rw [eν2, upM_off c2, eν1, upM_off c1]
        have hAG2 : AG μ ν2 0 := ⟨fun c hc => by rw [hn2 c (by omega) (by omega)]; exact hAG.1 c hc, by rw [hn2 _ (by omega) (by omega)]; exact hAG.2.1, by rw [hn2 _ (by omega) (by omega)]; exact hAG.2.2.1, by rw [hn2 (2 + 0) (by omega) (by omega)]; exact hAG.2.2.2⟩
        have hW2 : WF ν2 := AB.WF9 hAG2.1 hW
        have hB2 := hAG2.PB9 hB
        have h9 : ν2 9 p = 0 := by rw [eν2, upM_off (by omega), eν1, upM_self]
        have hak2 := hAG2.ask9 (p := p) (by omega)
        refine v_aload_n 1 K dX6_number_44 rfl ?_
        refine v_aload_n 2 K dX6_number_45 rfl ?_
        refine v_iload_n 3 K dX6_number_46 rfl ?_
        refine v_callVir (c := 1) (As := [.ref (vAd X (2 + 0)), .int (iZ (p : Int))]) (rest := []) K isO_Bd rfl 2 (c_X0_isAsked X.1.2.1 K.2.2.2.2.2.2 _ _ _ ν2 0 p (by omega) (by omega) hW2 hB2) gX6_number_X0_isAsked rfl rfl rfl (by decide +kernel) ⟨(Nat.le_of_ble_eq_true rfl), (Nat.le_of_ble_eq_true rfl)⟩ rfl rfl (Nat.le_of_ble_eq_true rfl) dX6_number_47 ⟨(Nat.le_of_ble_eq_true rfl), (Nat.le_of_ble_eq_true rfl)⟩ ?_
        refine v_if_eq 97 K dX6_number_50 (by decide) (by omega) (fun c50 => ?_) (fun c50 => ?_)
        · refine v_aload_n 0 K dX6_number_97 rfl ?_
          refine v_iload_n 3 K dX6_number_98 rfl ?_
          refine v_aload_n 2 K dX6_number_99 rfl ?_
          refine v_get (c := (2 + 0)) (k := 0) (C := RX3) (T := TX3) (N := 3) (v := .ref (vAd X (5 + 2 * 0))) K (isO_Pl (y := 0) (by omega)) rfl (fun _ h => (List.mem_cons_of_mem _ (List.mem_append_left _ (List.mem_append_left _ (List.mem_append_left _ (List.mem_append_right _ h)))))) (by decide) (List.mem_cons_of_mem _ (List.mem_append_left _ (List.mem_append_left _ (List.mem_append_left _ (List.mem_append_left _ (List.mem_append_left _ (List.mem_append_left _ (List.mem_of_getElem? (i := 8) rfl)))))))) rfl dX6_number_100 rfl ?_
          refine v_iload_n 3 K dX6_number_103 rfl ?_
          refine v_iald (c := (5 + 2 * 0)) p K (isI_ch (y := 0) (by omega)) rfl (by omega) dX6_number_104 ?_
          refine v_top (b := (μ (5 + 2 * 0) p)) (by rw [hn2 (5 + 2 * 0) (by omega) (by omega), hAG.2.1]) ?_
          refine v_callVv (c := 4) (As := [.int (iZ (p : Int)), .int (iZ (μ (5 + 2 * 0) p))]) (rest := []) K isO_Sv rfl 2 (c_X6_admit X.1.2.1 K.2.2.2.2.2.2 _ _ _ ν2 p (μ (5 + 2 * 0) p) (by omega) (by omega) (by omega)) gX6_number_X6_admit rfl rfl rfl (by decide +kernel) ⟨(Nat.le_of_ble_eq_true rfl), (Nat.le_of_ble_eq_true rfl)⟩ rfl rfl (Nat.le_of_ble_eq_true rfl) dX6_number_105 ⟨(Nat.le_of_ble_eq_true rfl), (Nat.le_of_ble_eq_true rfl)⟩ (fun ξ q105 => ?_)
          refine v_aload_n 0 K dX6_number_108 rfl ?_
          refine v_dup rfl K dX6_number_109 ?_
          refine v_get (c := 4) (k := 11) (C := RX6) (T := TX6) (N := 13) (v := .int (iZ (ξ 4 11))) K isO_Sv rfl (fun _ h => (List.mem_cons_of_mem _ (List.mem_append_left _ (List.mem_append_left _ (List.mem_append_left _ (List.mem_append_left _ (List.mem_append_right _ h))))))) (by decide) (List.mem_cons_of_mem _ (List.mem_append_left _ (List.mem_append_left _ (List.mem_append_left _ (List.mem_append_left _ (List.mem_append_left _ (List.mem_append_left _ (List.mem_of_getElem? (i := 2) rfl)))))))) rfl dX6_number_110 rfl ?_
          refine v_top (b := (pdI μ i)) (by rw [(NBl_s (ξ := ξ) hN hp hch eν1 eν2 (Or.inr ⟨by omega, q105⟩)).1]) ?_
          refine v_aload_n 0 K dX6_number_113 rfl ?_
          refine v_get (c := 4) (k := 0) (C := RX6) (T := TX6) (N := 13) (v := .ref (vAd X 9)) K isO_Sv rfl (fun _ h => (List.mem_cons_of_mem _ (List.mem_append_left _ (List.mem_append_left _ (List.mem_append_left _ (List.mem_append_left _ (List.mem_append_right _ h))))))) (by decide) (List.mem_cons_of_mem _ (List.mem_append_left _ (List.mem_append_left _ (List.mem_append_left _ (List.mem_append_left _ (List.mem_append_left _ (List.mem_append_left _ (List.mem_of_getElem? (i := 4) rfl)))))))) rfl dX6_number_114 rfl ?_
          refine v_iload_n 3 K dX6_number_117 rfl ?_
          refine v_iald (c := 9) p K isI_9 rfl (by omega) dX6_number_118 ?_
          refine v_top (b := (sz μ p)) (by rw [(NBl_s (ξ := ξ) hN hp hch eν1 eν2 (Or.inr ⟨by omega, q105⟩)).2.1]) ?_
          refine v_imul K dX6_number_119 ?_
          refine v_put (c := 4) (k := 11) (C := RX6) (T := TX6) (N := 13) (ty := .int) K isO_Sv rfl (fun _ h => (List.mem_cons_of_mem _ (List.mem_append_left _ (List.mem_append_left _ (List.mem_append_left _ (List.mem_append_left _ (List.mem_append_right _ h))))))) tyX6_ok nmX6 (by decide) (List.mem_cons_of_mem _ (List.mem_append_left _ (List.mem_append_left _ (List.mem_append_left _ (List.mem_append_left _ (List.mem_append_left _ (List.mem_append_left _ (List.mem_of_getElem? (i := 2) rfl)))))))) rfl rfl (by decide +kernel) dX6_number_120 (fun _ _ _ => rfl) (fun _ _ => Nat.le_of_ble_eq_true rfl) rfl rfl ?_
          obtain ⟨ν4, eν4⟩ : ∃ ν4 : Mem, ν4 = (upM ξ 4 11 ((pdI μ i) * (sz μ p))) := ⟨_, rfl⟩
          rw [← eν4]
          have hN2 : NBl μ ν4 (i + 1) := by rw [eν4]; exact (NBl_s hN hp hch eν1 eν2 (Or.inr ⟨by omega, q105⟩)).2.2
          refine v_iinc 3 [(3, .int (iZ ((p : Int) + (-1)))), (0, .ref (vAd X 4)), (1, .ref (vAd X 1)), (2, .ref (vAd X (2 + 0)))] K dX6_number_123 rfl (by decide) rfl ?_
          refine v_goto 23 K dX6_number_126 (by decide) ?_
          refine v_sub [1, 2, 3, 0] rfl ?_
          refine v_eq (lv1 := [(0, .ref (vAd X 4)), (1, .ref (vAd X 1)), (2, .ref (vAd X (2 + 0))), (3, .int (iZ ((((pcn μ : Nat) : Int) - 1) - (((i + 1) : Nat) : Int))))]) (st1 := []) (v_c0 (v_c0 (v_c0 (v_cI (by first | rfl | omega) rfl)))) rfl ?_
          exact ih23 (i + 1) ν4 (by omega) (by omega) hN2
        · refine v_iconst K dX6_number_53 ?_
          refine v_istore [(4, .int (iZ 0)), (0, .ref (vAd X 4)), (1, .ref (vAd X 1)), (2, .ref (vAd X (2 + 0))), (3, .int (iZ (p : Int)))] K dX6_number_54 (by decide) rfl ?_
          have L56 : ∀ (fuel : Nat) (w : Nat) (ξ : Mem) (hm : 4 - w < fuel) (hw : w ≤ 3) (hX : ADl ν2 ξ p w), vW X 5 56 0 0 [(0, .ref (vAd X 4)), (1, .ref (vAd X 1)), (2, .ref (vAd X (2 + 0))), (3, .int (iZ (p : Int))), (4, .int (iZ (w : Int)))] [] ξ := by
            intro fuel
            induction fuel with
            | zero => intro w ξ hm; exact absurd hm (Nat.not_lt_zero _)
            | succ fuel ih56 =>
              intro w ξ hm hw hX
              refine v_iload 4 K dX6_number_56 rfl ?_
              have hAGx : AG μ ξ 0 := ⟨fun c hc => by rw [hX.1 c (by omega) (by omega) (by omega)]; exact hAG2.1 c hc, by rw [hX.1 _ (by omega) (by omega) (by omega)]; exact hAG2.2.1, by rw [hX.1 _ (by omega) (by omega) (by omega)]; exact hAG2.2.2.1, by rw [hX.1 (2 + 0) (by omega) (by omega) (by omega)]; exact hAG2.2.2.2⟩
              have hWx : WF ξ := AB.WF9 hAGx.1 hW
              have hcx : ξ (2 + 0) 2 = 0 := by rw [hAGx.2.2.2]; exact hcl
              have h9x : ξ 9 p = (w : Int) := hX.2.2.1
              refine v_aload_n 1 K dX6_number_58 rfl ?_
              refine v_get (c := 1) (k := 1) (C := RX0) (T := TX0) (N := 4) (v := .ref (vAd X 20)) K isO_Bd rfl (fun _ h => (List.mem_cons_of_mem _ (List.mem_append_left _ (List.mem_append_left _ (List.mem_append_right _ h))))) (by decide) (List.mem_cons_of_mem _ (List.mem_append_left _ (List.mem_append_left _ (List.mem_append_left _ (List.mem_append_left _ (List.mem_append_left _ (List.mem_append_left _ (List.mem_of_getElem? (i := 6) rfl)))))))) rfl dX6_number_59 rfl ?_
              refine v_iload_n 3 K dX6_number_62 rfl ?_
              refine v_aald (c := 20) p K isQ_Py rfl rfl (by omega) dX6_number_63 ?_
              refine v_get (c := (37 + p)) (k := 3) (C := RX4) (T := TX4) (N := 6) (v := .int (iZ (ξ (37 + p) 3))) K (isO_Py (p := p) (by omega)) rfl (fun _ h => (List.mem_cons_of_mem _ (List.mem_append_left _ (List.mem_append_right _ h)))) (by decide) (List.mem_cons_of_mem _ (List.mem_append_left _ (List.mem_append_left _ (List.mem_append_left _ (List.mem_append_left _ (List.mem_append_left _ (List.mem_append_left _ (List.mem_of_getElem? (i := 7) rfl)))))))) rfl dX6_number_64 rfl ?_
              refine v_top (b := 3) (by rw [hX.1 (37 + p) (by omega) (by omega) (by omega), hn2 (37 + p) (by omega) (by omega), hAG.1 (37 + p) (by omega), (hw3 p (by omega)).1]) ?_
              refine v_icmp_ge 94 K dX6_number_67 (by decide) (by omega) (by decide) (fun c67 => ?_) (fun c67 => ?_)
              · refine v_goto 108 K dX6_number_94 (by decide) ?_
                refine v_aload_n 0 K dX6_number_108 rfl ?_
                refine v_dup rfl K dX6_number_109 ?_
                refine v_get (c := 4) (k := 11) (C := RX6) (T := TX6) (N := 13) (v := .int (iZ (ξ 4 11))) K isO_Sv rfl (fun _ h => (List.mem_cons_of_mem _ (List.mem_append_left _ (List.mem_append_left _ (List.mem_append_left _ (List.mem_append_left _ (List.mem_append_right _ h))))))) (by decide) (List.mem_cons_of_mem _ (List.mem_append_left _ (List.mem_append_left _ (List.mem_append_left _ (List.mem_append_left _ (List.mem_append_left _ (List.mem_append_left _ (List.mem_of_getElem? (i := 2) rfl)))))))) rfl dX6_number_110 rfl ?_
                refine v_top (b := (pdI μ i)) (by rw [(NBl_s (ξ := ξ) hN hp hch eν1 eν2 (Or.inl ⟨by omega, by rw [show 3 = w by omega]; exact hX⟩)).1]) ?_
                refine v_aload_n 0 K dX6_number_113 rfl ?_
                refine v_get (c := 4) (k := 0) (C := RX6) (T := TX6) (N := 13) (v := .ref (vAd X 9)) K isO_Sv rfl (fun _ h => (List.mem_cons_of_mem _ (List.mem_append_left _ (List.mem_append_left _ (List.mem_append_left _ (List.mem_append_left _ (List.mem_append_right _ h))))))) (by decide) (List.mem_cons_of_mem _ (List.mem_append_left _ (List.mem_append_left _ (List.mem_append_left _ (List.mem_append_left _ (List.mem_append_left _ (List.mem_append_left _ (List.mem_of_getElem? (i := 4) rfl)))))))) rfl dX6_number_114 rfl ?_
                refine v_iload_n 3 K dX6_number_117 rfl ?_
                refine v_iald (c := 9) p K isI_9 rfl (by omega) dX6_number_118 ?_
                refine v_top (b := (sz μ p)) (by rw [(NBl_s (ξ := ξ) hN hp hch eν1 eν2 (Or.inl ⟨by omega, by rw [show 3 = w by omega]; exact hX⟩)).2.1]) ?_
                refine v_imul K dX6_number_119 ?_
                refine v_put (c := 4) (k := 11) (C := RX6) (T := TX6) (N := 13) (ty := .int) K isO_Sv rfl (fun _ h => (List.mem_cons_of_mem _ (List.mem_append_left _ (List.mem_append_left _ (List.mem_append_left _ (List.mem_append_left _ (List.mem_append_right _ h))))))) tyX6_ok nmX6 (by decide) (List.mem_cons_of_mem _ (List.mem_append_left _ (List.mem_append_left _ (List.mem_append_left _ (List.mem_append_left _ (List.mem_append_left _ (List.mem_append_left _ (List.mem_of_getElem? (i := 2) rfl)))))))) rfl rfl (by decide +kernel) dX6_number_120 (fun _ _ _ => rfl) (fun _ _ => Nat.le_of_ble_eq_true rfl) rfl rfl ?_
                obtain ⟨ν4, eν4⟩ : ∃ ν4 : Mem, ν4 = (upM ξ 4 11 ((pdI μ i) * (sz μ p))) := ⟨_, rfl⟩
                rw [← eν4]
                have hN2 : NBl μ ν4 (i + 1) := by rw [eν4]; exact (NBl_s hN hp hch eν1 eν2 (Or.inl ⟨by omega, by rw [show 3 = w by omega]; exact hX⟩)).2.2
                refine v_iinc 3 [(3, .int (iZ ((p : Int) + (-1)))), (0, .ref (vAd X 4)), (1, .ref (vAd X 1)), (2, .ref (vAd X (2 + 0))), (4, .int (iZ (w : Int)))] K dX6_number_123 rfl (by decide) rfl ?_
                refine v_goto 23 K dX6_number_126 (by decide) ?_
                refine v_sub [1, 2, 3, 0] rfl ?_
                refine v_eq (lv1 := [(0, .ref (vAd X 4)), (1, .ref (vAd X 1)), (2, .ref (vAd X (2 + 0))), (3, .int (iZ ((((pcn μ : Nat) : Int) - 1) - (((i + 1) : Nat) : Int))))]) (st1 := []) (v_c0 (v_c0 (v_c0 (v_cI (by first | rfl | omega) rfl)))) rfl ?_
                exact ih23 (i + 1) ν4 (by omega) (by omega) hN2
              · refine v_aload_n 1 K dX6_number_70 rfl ?_
                refine v_aload_n 2 K dX6_number_71 rfl ?_
                refine v_iload_n 3 K dX6_number_72 rfl ?_
                refine v_iload 4 K dX6_number_73 rfl ?_
                refine v_callVir (c := 1) (As := [.ref (vAd X (2 + 0)), .int (iZ (p : Int)), .int (iZ (w : Int))]) (rest := []) K isO_Bd rfl 3 (c_X0_isOpen X.1.2.1 K.2.2.2.2.2.2 _ _ _ ξ 0 p (w : Int) (by omega) (by omega) hWx (by omega) hcx) gX6_number_X0_isOpen rfl rfl rfl (by decide +kernel) ⟨(Nat.le_of_ble_eq_true rfl), (Nat.le_of_ble_eq_true rfl)⟩ rfl rfl (Nat.le_of_ble_eq_true rfl) dX6_number_75 ⟨(Nat.le_of_ble_eq_true rfl), (Nat.le_of_ble_eq_true rfl)⟩ ?_
                refine v_if_eq 88 K dX6_number_78 (by decide) (by decide) (fun c78 => (by exfalso; omega)) (fun c78 => ?_)
                refine v_aload_n 0 K dX6_number_81 rfl ?_
                refine v_iload_n 3 K dX6_number_82 rfl ?_
                refine v_iload 4 K dX6_number_83 rfl ?_
                refine v_callVv (c := 4) (As := [.int (iZ (p : Int)), .int (iZ (w : Int))]) (rest := []) K isO_Sv rfl 2 (c_X6_admit X.1.2.1 K.2.2.2.2.2.2 _ _ _ ξ p (w : Int) (by omega) (by omega) (by omega)) gX6_number_X6_admit rfl rfl rfl (by decide +kernel) ⟨(Nat.le_of_ble_eq_true rfl), (Nat.le_of_ble_eq_true rfl)⟩ rfl rfl (Nat.le_of_ble_eq_true rfl) dX6_number_85 ⟨(Nat.le_of_ble_eq_true rfl), (Nat.le_of_ble_eq_true rfl)⟩ (fun ξ2 q85 => ?_)
                refine v_iinc 4 [(4, .int (iZ ((w : Int) + 1))), (0, .ref (vAd X 4)), (1, .ref (vAd X 1)), (2, .ref (vAd X (2 + 0))), (3, .int (iZ (p : Int)))] K dX6_number_88 rfl (by decide) rfl ?_
                refine v_goto 56 K dX6_number_91 (by decide) ?_
                refine v_sub [1, 2, 3, 4, 0] rfl ?_
                refine v_eq (lv1 := [(0, .ref (vAd X 4)), (1, .ref (vAd X 1)), (2, .ref (vAd X (2 + 0))), (3, .int (iZ (p : Int))), (4, .int (iZ (((w + 1) : Nat) : Int)))]) (st1 := []) (v_c0 (v_c0 (v_c0 (v_c0 (v_cI (by first | rfl | omega) rfl))))) rfl ?_
                exact ih56 (w + 1) ξ2 (by omega) (by omega) (ADl_s hX (by omega) q85)
          refine v_sub [1, 2, 3, 4, 0] rfl ?_
          refine v_eq (lv1 := [(0, .ref (vAd X 4)), (1, .ref (vAd X 1)), (2, .ref (vAd X (2 + 0))), (3, .int (iZ (p : Int))), (4, .int (iZ ((0 : Nat) : Int)))]) (st1 := []) (v_c0 (v_c0 (v_c0 (v_c0 (v_cI (by first | rfl | omega) rfl))))) rfl ?_
          exact L56 (4 - 0 + 1) 0 ν2 (by omega) (by omega) (ADl_0 (by rw [eν2, upM_off (by omega), eν1, upM_self]))
      refine v_if_lt 129 K dX6_number_24 (by decide) (by omega) (fun c24 => ?_) (fun c24 => ?_)
      · exact hret _ (by have hN3 := hN; rw [show i = pcn μ by omega] at hN3; exact hN3) _ _ _ _ _ (Nat.le_of_ble_eq_true rfl) (Nat.le_of_ble_eq_true rfl) dX6_number_129
      · refine v_eq (lv1 := [(0, .ref (vAd X 4)), (1, .ref (vAd X 1)), (2, .ref (vAd X (2 + 0))), (3, .int (iZ (((pcn μ - 1 - i) : Nat) : Int)))]) (st1 := []) (v_c0 (v_c0 (v_c0 (v_cI (by omega) rfl)))) rfl ?_
        exact L27 (pcn μ - 1 - i) (by omega)
  refine v_sub [1, 2, 3, 0] rfl ?_
  refine v_eq (lv1 := [(0, .ref (vAd X 4)), (1, .ref (vAd X 1)), (2, .ref (vAd X (2 + 0))), (3, .int (iZ ((((pcn μ : Nat) : Int) - 1) - ((0 : Nat) : Int))))]) (st1 := []) (v_c0 (v_c0 (v_c0 (v_cI (by first | rfl | omega) rfl)))) rfl ?_
  exact L23 (7 - 0 + 1) 0 μ2 (by omega) (by omega) (NBl_0 hcl eμ1 eμ2)
theorem c_X6_number (l : Launch) (hl : l.stackTraces = false) (D : va_G) (cy : Nat → ClassId) (ad : Nat → Nat) (μ : Mem) (hW : WF μ) (hL : PL μ 0) (hw3 : LW μ) : cV l yX6_number wsX6_number ({ frames := 2, cells := 0, slots := 0, locals := 44 } : Room) D cy ad μ [.ref (ad 4), .ref (ad 1), .ref (ad (2 + 0))] (fun (ν : Mem) => NB μ ν) :=
  m_void (av := (fun ad => [.ref (ad 4), .ref (ad 1), .ref (ad (2 + 0))])) hl (by decide) rfl rfl (Nat.le_of_ble_eq_true rfl) (fun X K hret => b_X6_number hW hL hw3 K hret)
theorem dX6_placeIn_0 : decode cX6_placeIn 0 = .ok (.aload_n 0, 1) := by decide +kernel
theorem dX6_placeIn_1 : decode cX6_placeIn 1 = .ok (.getfield 15, 3) := by decide +kernel
theorem dX6_placeIn_4 : decode cX6_placeIn 4 = .ok (.iload_n 2, 1) := by decide +kernel
theorem dX6_placeIn_5 : decode cX6_placeIn 5 = .ok (.iaload, 1) := by decide +kernel
theorem dX6_placeIn_6 : decode cX6_placeIn 6 = .ok (.iconst 1, 1) := by decide +kernel
theorem dX6_placeIn_7 : decode cX6_placeIn 7 = .ok (.if_icmp .lt 13, 3) := by decide +kernel
theorem dX6_placeIn_10 : decode cX6_placeIn 10 = .ok (.aload_n 0, 1) := by decide +kernel
theorem dX6_placeIn_11 : decode cX6_placeIn 11 = .ok (.getfield 9, 3) := by decide +kernel
theorem dX6_placeIn_14 : decode cX6_placeIn 14 = .ok (.iload_n 2, 1) := by decide +kernel
theorem dX6_placeIn_15 : decode cX6_placeIn 15 = .ok (.iaload, 1) := by decide +kernel
theorem dX6_placeIn_16 : decode cX6_placeIn 16 = .ok (.iconst 1, 1) := by decide +kernel
theorem dX6_placeIn_17 : decode cX6_placeIn 17 = .ok (.if_icmp .ge 7, 3) := by decide +kernel
theorem dX6_placeIn_24 : decode cX6_placeIn 24 = .ok (.iload_n 1, 1) := by decide +kernel
theorem dX6_placeIn_25 : decode cX6_placeIn 25 = .ok (.aload_n 0, 1) := by decide +kernel
theorem dX6_placeIn_26 : decode cX6_placeIn 26 = .ok (.getfield 15, 3) := by decide +kernel
theorem dX6_placeIn_29 : decode cX6_placeIn 29 = .ok (.iload_n 2, 1) := by decide +kernel
theorem dX6_placeIn_30 : decode cX6_placeIn 30 = .ok (.iaload, 1) := by decide +kernel
theorem dX6_placeIn_31 : decode cX6_placeIn 31 = .ok (.idiv, 1) := by decide +kernel
theorem dX6_placeIn_32 : decode cX6_placeIn 32 = .ok (.aload_n 0, 1) := by decide +kernel
theorem dX6_placeIn_33 : decode cX6_placeIn 33 = .ok (.getfield 9, 3) := by decide +kernel
theorem dX6_placeIn_36 : decode cX6_placeIn 36 = .ok (.iload_n 2, 1) := by decide +kernel
theorem dX6_placeIn_37 : decode cX6_placeIn 37 = .ok (.iaload, 1) := by decide +kernel
theorem dX6_placeIn_38 : decode cX6_placeIn 38 = .ok (.irem, 1) := by decide +kernel
theorem dX6_placeIn_39 : decode cX6_placeIn 39 = .ok (.ireturn, 1) := by decide +kernel
set_option maxHeartbeats 4000000 in
set_option maxRecDepth 100000 in
theorem b_X6_placeIn {X : VC} {μ : Mem} (k : Int) (p : Nat) (hp : p < 6) (hk : 0 ≤ k ∧ k ≤ 100000) (hs : 1 ≤ μ 10 p ∧ μ 10 p ≤ 1000) (hz : 1 ≤ μ 9 p ∧ μ 9 p ≤ 10) (K : vK X cX6_placeIn 3 RX6 wsX6_placeIn ({ frames := 0, cells := 0, slots := 0, locals := 0 } : Room)) (hret : ∀ (z : Int) (ν : Mem), (fun (z : Int) (ν : Mem) => z = k / μ 10 p % μ 9 p ∧ ν = μ) z ν → ∀ n pc k1 k2 lv, k1 ≤ 0 → k2 ≤ 0 → decode cX6_placeIn pc = .ok (.ireturn, 1) → vW X n pc k1 k2 lv [.int (iZ z)] ν) : vW X 3 0 0 0 [(0, .ref (vAd X 4)), (1, .int (iZ k)), (2, .int (iZ (p : Int)))] [] μ := by
  refine v_aload_n 0 K dX6_placeIn_0 rfl ?_
  refine v_get (c := 4) (k := 1) (C := RX6) (T := TX6) (N := 13) (v := .ref (vAd X 10)) K isO_Sv rfl (fun _ h => (List.mem_cons_of_mem _ (List.mem_append_left _ (List.mem_append_right _ h)))) (by decide) (List.mem_cons_of_mem _ (List.mem_append_left _ (List.mem_append_left _ (List.mem_of_getElem? (i := 0) rfl)))) rfl dX6_placeIn_1 rfl ?_
  refine v_iload_n 2 K dX6_placeIn_4 rfl ?_
  refine v_iald (c := 10) p K isI_10 rfl (by omega) dX6_placeIn_5 ?_
  refine v_iconst K dX6_placeIn_6 ?_
  refine v_icmp_lt 20 K dX6_placeIn_7 (by decide) (by omega) (by decide) (fun c7 => (by exfalso; omega)) (fun c7 => ?_)
  refine v_aload_n 0 K dX6_placeIn_10 rfl ?_
  refine v_get (c := 4) (k := 0) (C := RX6) (T := TX6) (N := 13) (v := .ref (vAd X 9)) K isO_Sv rfl (fun _ h => (List.mem_cons_of_mem _ (List.mem_append_left _ (List.mem_append_right _ h)))) (by decide) (List.mem_cons_of_mem _ (List.mem_append_left _ (List.mem_append_left _ (List.mem_of_getElem? (i := 1) rfl)))) rfl dX6_placeIn_11 rfl ?_
  refine v_iload_n 2 K dX6_placeIn_14 rfl ?_
  refine v_iald (c := 9) p K isI_9 rfl (by omega) dX6_placeIn_15 ?_
  refine v_iconst K dX6_placeIn_16 ?_
  refine v_icmp_ge 24 K dX6_placeIn_17 (by decide) (by omega) (by decide) (fun c17 => ?_) (fun c17 => (by exfalso; omega))
  refine v_iload_n 1 K dX6_placeIn_24 rfl ?_
  refine v_aload_n 0 K dX6_placeIn_25 rfl ?_
  refine v_get (c := 4) (k := 1) (C := RX6) (T := TX6) (N := 13) (v := .ref (vAd X 10)) K isO_Sv rfl (fun _ h => (List.mem_cons_of_mem _ (List.mem_append_left _ (List.mem_append_right _ h)))) (by decide) (List.mem_cons_of_mem _ (List.mem_append_left _ (List.mem_append_left _ (List.mem_of_getElem? (i := 0) rfl)))) rfl dX6_placeIn_26 rfl ?_
  refine v_iload_n 2 K dX6_placeIn_29 rfl ?_
  refine v_iald (c := 10) p K isI_10 rfl (by omega) dX6_placeIn_30 ?_
  refine v_idiv (by omega) (by omega) K dX6_placeIn_31 ?_
  refine v_aload_n 0 K dX6_placeIn_32 rfl ?_
  refine v_get (c := 4) (k := 0) (C := RX6) (T := TX6) (N := 13) (v := .ref (vAd X 9)) K isO_Sv rfl (fun _ h => (List.mem_cons_of_mem _ (List.mem_append_left _ (List.mem_append_right _ h)))) (by decide) (List.mem_cons_of_mem _ (List.mem_append_left _ (List.mem_append_left _ (List.mem_of_getElem? (i := 1) rfl)))) rfl dX6_placeIn_33 rfl ?_
  refine v_iload_n 2 K dX6_placeIn_36 rfl ?_
  refine v_iald (c := 9) p K isI_9 rfl (by omega) dX6_placeIn_37 ?_
  have hq0 : 0 ≤ k / μ 10 p := Int.ediv_nonneg hk.1 (by omega)
  have hq1 : k / μ 10 p ≤ k := Int.ediv_le_self _ hk.1
  refine v_irem (by omega) (by omega) K dX6_placeIn_38 ?_
  exact hret _ _ ⟨rfl, rfl⟩ _ _ _ _ _ (Nat.le_of_ble_eq_true rfl) (Nat.le_of_ble_eq_true rfl) dX6_placeIn_39
theorem c_X6_placeIn (l : Launch) (hl : l.stackTraces = false) (D : va_G) (cy : Nat → ClassId) (ad : Nat → Nat) (μ : Mem) (k : Int) (p : Nat) (hp : p < 6) (hk : 0 ≤ k ∧ k ≤ 100000) (hs : 1 ≤ μ 10 p ∧ μ 10 p ≤ 1000) (hz : 1 ≤ μ 9 p ∧ μ 9 p ≤ 10) : cI l yX6_placeIn wsX6_placeIn ({ frames := 0, cells := 0, slots := 0, locals := 0 } : Room) D cy ad μ [.ref (ad 4), .int (iZ k), .int (iZ (p : Int))] (fun (z : Int) (ν : Mem) => z = k / μ 10 p % μ 9 p ∧ ν = μ) :=
  m_int (av := (fun ad => [.ref (ad 4), .int (iZ k), .int (iZ (p : Int))])) hl (by decide) rfl rfl (Nat.le_of_ble_eq_true rfl) (fun _ _ _ => rfl) (fun X K hret => b_X6_placeIn k p hp hk hs hz K hret)
theorem dX6_show_0 : decode cX6_show 0 = .ok (.iconst 0, 1) := by decide +kernel
theorem dX6_show_1 : decode cX6_show 1 = .ok (.istore_n 3, 1) := by decide +kernel
theorem dX6_show_2 : decode cX6_show 2 = .ok (.iload_n 3, 1) := by decide +kernel
theorem dX6_show_3 : decode cX6_show 3 = .ok (.aload_n 1, 1) := by decide +kernel
theorem dX6_show_4 : decode cX6_show 4 = .ok (.getfield 56, 3) := by decide +kernel
theorem dX6_show_7 : decode cX6_show 7 = .ok (.if_icmp .ge 51, 3) := by decide +kernel
theorem dX6_show_58 : decode cX6_show 58 = .ok (.return_, 1) := by decide +kernel
theorem dX6_show_10 : decode cX6_show 10 = .ok (.aload_n 0, 1) := by decide +kernel
theorem dX6_show_11 : decode cX6_show 11 = .ok (.getfield 18, 3) := by decide +kernel
theorem dX6_show_14 : decode cX6_show 14 = .ok (.iload_n 3, 1) := by decide +kernel
theorem dX6_show_15 : decode cX6_show 15 = .ok (.iconst 5, 1) := by decide +kernel
theorem dX6_show_16 : decode cX6_show 16 = .ok (.imul, 1) := by decide +kernel
theorem dX6_show_17 : decode cX6_show 17 = .ok (.aload_n 0, 1) := by decide +kernel
theorem dX6_show_18 : decode cX6_show 18 = .ok (.iload_n 2, 1) := by decide +kernel
theorem dX6_show_19 : decode cX6_show 19 = .ok (.iload_n 3, 1) := by decide +kernel
theorem dX6_show_20 : decode cX6_show 20 = .ok (.invokevirtual 85, 3) := by decide +kernel
set_option maxRecDepth 20000 in
theorem ggX6_show_X6_placeIn : GoodIn wsX6_show wsX6_placeIn := goodIn_ca (goodIn_r _ [9, 10, 11, 36, 37, 38, 39, 40, 41, 42, 43, 44, 45, 46, 47, 48] (by decide +kernel) (by decide +kernel)) (goodIn_sub (fun _ h => List.mem_cons_of_mem _ (List.mem_append_right _ h)) (by decide +kernel))
set_option maxRecDepth 20000 in
theorem gX6_show_X6_placeIn : GoodIn wsX6_show (wsV RX6 85 RX6 yX6_placeIn wsX6_placeIn) := goodIn_app (goodIn_of _ (by decide +kernel)) ggX6_show_X6_placeIn
theorem dX6_show_23 : decode cX6_show 23 = .ok (.iadd, 1) := by decide +kernel
theorem dX6_show_24 : decode cX6_show 24 = .ok (.iaload, 1) := by decide +kernel
theorem dX6_show_25 : decode cX6_show 25 = .ok (.istore 4, 2) := by decide +kernel
theorem dX6_show_27 : decode cX6_show 27 = .ok (.aload_n 0, 1) := by decide +kernel
theorem dX6_show_28 : decode cX6_show 28 = .ok (.getfield 45, 3) := by decide +kernel
theorem dX6_show_31 : decode cX6_show 31 = .ok (.getfield 82, 3) := by decide +kernel
theorem dX6_show_34 : decode cX6_show 34 = .ok (.iload_n 3, 1) := by decide +kernel
theorem dX6_show_35 : decode cX6_show 35 = .ok (.iaload, 1) := by decide +kernel
theorem dX6_show_36 : decode cX6_show 36 = .ok (.iload 4, 2) := by decide +kernel
theorem dX6_show_38 : decode cX6_show 38 = .ok (.if_icmp .eq 14, 3) := by decide +kernel
theorem dX6_show_52 : decode cX6_show 52 = .ok (.iinc 3 1, 3) := by decide +kernel
theorem dX6_show_55 : decode cX6_show 55 = .ok (.goto (-53), 3) := by decide +kernel
theorem dX6_show_41 : decode cX6_show 41 = .ok (.aload_n 1, 1) := by decide +kernel
theorem dX6_show_42 : decode cX6_show 42 = .ok (.aload_n 0, 1) := by decide +kernel
theorem dX6_show_43 : decode cX6_show 43 = .ok (.getfield 45, 3) := by decide +kernel
theorem dX6_show_46 : decode cX6_show 46 = .ok (.iload_n 3, 1) := by decide +kernel
theorem dX6_show_47 : decode cX6_show 47 = .ok (.iload 4, 2) := by decide +kernel
theorem dX6_show_49 : decode cX6_show 49 = .ok (.invokevirtual 89, 3) := by decide +kernel
set_option maxRecDepth 20000 in
theorem ggX6_show_X0_take : GoodIn wsX6_show wsX0_take := goodIn_ca (goodIn_r _ [16, 17, 18, 19, 20, 21, 22, 23, 24, 25, 26, 27, 28, 29, 30, 31, 32, 33, 34, 35, 49, 50, 51, 52, 53, 54, 55, 56, 57] (by decide +kernel) (by decide +kernel)) (goodIn_sub (fun _ h => List.mem_cons_of_mem _ (List.mem_append_right _ h)) (by decide +kernel))
set_option maxRecDepth 20000 in
theorem gX6_show_X0_take : GoodIn wsX6_show (wsV RX6 89 RX0 yX0_take wsX0_take) := goodIn_app (goodIn_of _ (by decide +kernel)) ggX6_show_X0_take
set_option maxHeartbeats 4000000 in
set_option maxRecDepth 100000 in
theorem b_X6_show {X : VC} {μ : Mem} (β : Mem) (k : Nat) (hS : SV β) (hA : AS β μ) (hL1 : PL μ 1) (hk : (k : Int) ≤ 1000) (K : vK X cX6_show 5 RX6 wsX6_show ({ frames := 2, cells := 0, slots := 0, locals := 48 } : Room)) (hret : ∀ (ν : Mem), (fun (ν : Mem) => SHl β μ ν (k : Int) (pcn β)) ν → ∀ n pc k1 k2 lv, k1 ≤ 0 → k2 ≤ 0 → decode cX6_show pc = .ok (.return_, 1) → vW X n pc k1 k2 lv [] ν) : vW X 5 0 0 0 [(0, .ref (vAd X 4)), (1, .ref (vAd X 1)), (2, .int (iZ (k : Int)))] [] μ := by
  have hpc := hS.1.pc6
  refine v_iconst K dX6_show_0 ?_
  refine v_istore_n [(3, .int (iZ 0)), (0, .ref (vAd X 4)), (1, .ref (vAd X 1)), (2, .int (iZ (k : Int)))] K dX6_show_1 (by decide) rfl ?_
  have L2 : ∀ (fuel : Nat) (p : Nat) (ξ : Mem) (hm : 7 - p < fuel) (hp : p ≤ pcn β) (hH : SHl β μ ξ (k : Int) p), vW X 5 2 0 0 [(0, .ref (vAd X 4)), (1, .ref (vAd X 1)), (2, .int (iZ (k : Int))), (3, .int (iZ (p : Int)))] [] ξ := by
    intro fuel
    induction fuel with
    | zero => intro p ξ hm; exact absurd hm (Nat.not_lt_zero _)
    | succ fuel ih2 =>
      intro p ξ hm hp hH
      refine v_iload_n 3 K dX6_show_2 rfl ?_
      have hAx := SHl_AS hA hH
      have hWx := hAx.AB9.WF9 hS.1
      have h13 : ξ 1 3 = (pcn β : Int) := by rw [hAx.1 1 (by omega)]; exact hpc.2
      refine v_aload_n 1 K dX6_show_3 rfl ?_
      refine v_get (c := 1) (k := 3) (C := RX0) (T := TX0) (N := 4) (v := .int (iZ (ξ 1 3))) K isO_Bd rfl (fun _ h => (List.mem_cons_of_mem _ (List.mem_append_left _ (List.mem_append_left _ (List.mem_append_left _ (List.mem_append_left _ (List.mem_append_right _ h))))))) (by decide) (List.mem_cons_of_mem _ (List.mem_append_left _ (List.mem_append_left _ (List.mem_append_left _ (List.mem_append_left _ (List.mem_append_left _ (List.mem_append_left _ (List.mem_of_getElem? (i := 0) rfl)))))))) rfl dX6_show_4 rfl ?_
      refine v_icmp_ge 58 K dX6_show_7 (by decide) (by omega) (by omega) (fun c7 => ?_) (fun c7 => ?_)
      · exact hret _ (by have hH3 := hH; rw [show p = pcn β by omega] at hH3; exact hH3) _ _ _ _ _ (Nat.le_of_ble_eq_true rfl) (Nat.le_of_ble_eq_true rfl) dX6_show_58
      · obtain ⟨s1, s2, s3, s4, s5, s6, s7⟩ := show_way (k := (k : Int)) hS hAx (p := p) (by omega)
        have hwy := wyk_rng hS (k : Int) (p := p) (by omega)
        have hc1 := hH.2.2.1 p (by omega)
        refine v_aload_n 0 K dX6_show_10 rfl ?_
        refine v_get (c := 4) (k := 2) (C := RX6) (T := TX6) (N := 13) (v := .ref (vAd X 11)) K isO_Sv rfl (fun _ h => (List.mem_cons_of_mem _ (List.mem_append_left _ (List.mem_append_left _ (List.mem_append_left _ (List.mem_append_right _ h)))))) (by decide) (List.mem_cons_of_mem _ (List.mem_append_left _ (List.mem_append_left _ (List.mem_append_left _ (List.mem_append_left _ (List.mem_append_left _ (List.mem_append_left _ (List.mem_of_getElem? (i := 1) rfl)))))))) rfl dX6_show_11 rfl ?_
        refine v_iload_n 3 K dX6_show_14 rfl ?_
        refine v_iconst K dX6_show_15 ?_
        refine v_imul K dX6_show_16 ?_
        refine v_aload_n 0 K dX6_show_17 rfl ?_
        refine v_iload_n 2 K dX6_show_18 rfl ?_
        refine v_iload_n 3 K dX6_show_19 rfl ?_
        refine v_callVir (c := 4) (As := [.int (iZ (k : Int)), .int (iZ (p : Int))]) (rest := [.int (iZ ((p : Int) * 5)), .ref (vAd X 11)]) K isO_Sv rfl 2 (c_X6_placeIn X.1.2.1 K.2.2.2.2.2.2 _ _ _ ξ (k : Int) p (by omega) (by omega) (by omega) (by omega)) gX6_show_X6_placeIn rfl rfl rfl (by decide +kernel) ⟨(Nat.le_of_ble_eq_true rfl), (Nat.le_of_ble_eq_true rfl)⟩ rfl rfl (Nat.le_of_ble_eq_true rfl) dX6_show_20 ⟨(Nat.le_of_ble_eq_true rfl), (Nat.le_of_ble_eq_true rfl)⟩ ?_
        refine v_iadd K dX6_show_23 ?_
        refine v_iald (c := 11) (((((p : Int) * 5) + ((k : Int) / ξ 10 p % ξ 9 p))).toNat) K isI_11 (by omega) (by omega) dX6_show_24 ?_
        refine v_top (b := (wyk β (k : Int) p)) (by rw [s7]) ?_
        refine v_istore [(4, .int (iZ (wyk β (k : Int) p))), (0, .ref (vAd X 4)), (1, .ref (vAd X 1)), (2, .int (iZ (k : Int))), (3, .int (iZ (p : Int)))] K dX6_show_25 (by decide) rfl ?_
        refine v_aload_n 1 K dX6_show_27 rfl ?_
        refine v_get (c := 4) (k := 10) (C := RX6) (T := TX6) (N := 13) (v := .ref (vAd X (2 + 1))) K isO_Sv rfl (fun _ h => (List.mem_cons_of_mem _ (List.mem_append_left _ (List.mem_append_left _ (List.mem_append_left _ (List.mem_append_right _ h)))))) (by decide) (List.mem_cons_of_mem _ (List.mem_append_left _ (List.mem_append_left _ (List.mem_append_left _ (List.mem_append_left _ (List.mem_append_left _ (List.mem_append_left _ (List.mem_of_getElem? (i := 2) rfl)))))))) rfl dX6_show_28 rfl ?_
        refine v_get (c := (2 + 1)) (k := 0) (C := RX3) (T := TX3) (N := 3) (v := .ref (vAd X (5 + 2 * 1))) K (isO_Pl (y := 1) (by omega)) rfl (fun _ h => (List.mem_cons_of_mem _ (List.mem_append_left _ (List.mem_append_left _ (List.mem_append_right _ h))))) (by decide) (List.mem_cons_of_mem _ (List.mem_append_left _ (List.mem_append_left _ (List.mem_append_left _ (List.mem_append_left _ (List.mem_append_left _ (List.mem_append_left _ (List.mem_of_getElem? (i := 3) rfl)))))))) rfl dX6_show_31 rfl ?_
        refine v_iload_n 4 K dX6_show_34 rfl ?_
        refine v_iald (c := (5 + 2 * 1)) p K (isI_ch (y := 1) (by omega)) rfl (by omega) dX6_show_35 ?_
        refine v_iload 0 K dX6_show_36 rfl ?_
        refine v_icmp_eq 52 K dX6_show_38 (by decide) (by omega) (by omega) (fun c38 => ?_) (fun c38 => ?_)
        · have hH2 := SHl_skip hH c38
          refine v_iinc 4 [(3, .int (iZ ((p : Int) + 1))), (4, .int (iZ (wyk β (k : Int) p))), (0, .ref (vAd X 4)), (1, .ref (vAd X 1)), (2, .int (iZ (k : Int)))] K dX6_show_52 rfl (by decide) rfl ?_
          refine v_goto 2 K dX6_show_55 (by decide) ?_
          refine v_sub [2, 3, 4, 0] rfl ?_
          refine v_eq (lv1 := [(0, .ref (vAd X 4)), (1, .ref (vAd X 1)), (2, .int (iZ (k : Int))), (3, .int (iZ (((p + 1) : Nat) : Int)))]) (st1 := []) (v_c0 (v_c0 (v_c0 (v_cI (by first | rfl | omega) rfl)))) rfl ?_
          exact ih2 (p + 1) ξ (by omega) (by omega) hH2
        · refine v_aload_n 2 K dX6_show_41 rfl ?_
          refine v_aload_n 1 K dX6_show_42 rfl ?_
          refine v_get (c := 4) (k := 10) (C := RX6) (T := TX6) (N := 13) (v := .ref (vAd X (2 + 1))) K isO_Sv rfl (fun _ h => (List.mem_cons_of_mem _ (List.mem_append_left _ (List.mem_append_left _ (List.mem_append_left _ (List.mem_append_right _ h)))))) (by decide) (List.mem_cons_of_mem _ (List.mem_append_left _ (List.mem_append_left _ (List.mem_append_left _ (List.mem_append_left _ (List.mem_append_left _ (List.mem_append_left _ (List.mem_of_getElem? (i := 2) rfl)))))))) rfl dX6_show_43 rfl ?_
          refine v_iload_n 4 K dX6_show_46 rfl ?_
          refine v_iload 0 K dX6_show_47 rfl ?_
          refine v_callVv (c := 1) (As := [.ref (vAd X (2 + 1)), .int (iZ (p : Int)), .int (iZ (wyk β (k : Int) p))]) (rest := []) K isO_Bd rfl 3 (c_X0_take X.1.2.1 K.2.2.2.2.2.2 _ _ _ ξ 1 p (wyk β (k : Int) p) (by omega) (by omega) hWx (by omega) (by omega)) gX6_show_X0_take rfl rfl rfl (by decide +kernel) ⟨(Nat.le_of_ble_eq_true rfl), (Nat.le_of_ble_eq_true rfl)⟩ rfl rfl (Nat.le_of_ble_eq_true rfl) dX6_show_49 ⟨(Nat.le_of_ble_eq_true rfl), (Nat.le_of_ble_eq_true rfl)⟩ (fun ξ2 q49 => ?_)
          have hH2 := SHl_take hS hA hH (by omega) q49
          refine v_iinc 4 [(3, .int (iZ ((p : Int) + 1))), (4, .int (iZ (wyk β (k : Int) p))), (0, .ref (vAd X 4)), (1, .ref (vAd X 1)), (2, .int (iZ (k : Int)))] K dX6_show_52 rfl (by decide) rfl ?_
          refine v_goto 2 K dX6_show_55 (by decide) ?_
          refine v_sub [2, 3, 4, 0] rfl ?_
          refine v_eq (lv1 := [(0, .ref (vAd X 4)), (1, .ref (vAd X 1)), (2, .int (iZ (k : Int))), (3, .int (iZ (((p + 1) : Nat) : Int)))]) (st1 := []) (v_c0 (v_c0 (v_c0 (v_cI (by first | rfl | omega) rfl)))) rfl ?_
          exact ih2 (p + 1) ξ2 (by omega) (by omega) hH2
  refine v_sub [1, 2, 3, 0] rfl ?_
  refine v_eq (lv1 := [(0, .ref (vAd X 4)), (1, .ref (vAd X 1)), (2, .int (iZ (k : Int))), (3, .int (iZ ((0 : Nat) : Int)))]) (st1 := []) (v_c0 (v_c0 (v_c0 (v_cI (by first | rfl | omega) rfl)))) rfl ?_
  exact L2 (7 - 0 + 1) 0 μ (by omega) (by omega) ⟨fun _ _ _ => rfl, fun q hq => by omega, hL1⟩
theorem c_X6_show (l : Launch) (hl : l.stackTraces = false) (D : va_G) (cy : Nat → ClassId) (ad : Nat → Nat) (μ : Mem) (β : Mem) (k : Nat) (hS : SV β) (hA : AS β μ) (hL1 : PL μ 1) (hk : (k : Int) ≤ 1000) : cV l yX6_show wsX6_show ({ frames := 2, cells := 0, slots := 0, locals := 48 } : Room) D cy ad μ [.ref (ad 4), .ref (ad 1), .int (iZ (k : Int))] (fun (ν : Mem) => SHl β μ ν (k : Int) (pcn β)) :=
  m_void (av := (fun ad => [.ref (ad 4), .ref (ad 1), .int (iZ (k : Int))])) hl (by decide) rfl rfl (Nat.le_of_ble_eq_true rfl) (fun X K hret => b_X6_show β k hS hA hL1 hk K hret)
theorem dX6_fill_0 : decode cX6_fill 0 = .ok (.aload_n 0, 1) := by decide +kernel
theorem dX6_fill_1 : decode cX6_fill 1 = .ok (.aload_n 0, 1) := by decide +kernel
theorem dX6_fill_2 : decode cX6_fill 2 = .ok (.getfield 53, 3) := by decide +kernel
theorem dX6_fill_5 : decode cX6_fill 5 = .ok (.sipush 1000, 3) := by decide +kernel
theorem dX6_fill_8 : decode cX6_fill 8 = .ok (.invokestatic 93, 3) := by decide +kernel
theorem dX6_fill_11 : decode cX6_fill 11 = .ok (.putfield 98, 3) := by decide +kernel
theorem dX6_fill_14 : decode cX6_fill 14 = .ok (.iconst 0, 1) := by decide +kernel
theorem dX6_fill_15 : decode cX6_fill 15 = .ok (.istore_n 2, 1) := by decide +kernel
theorem dX6_fill_16 : decode cX6_fill 16 = .ok (.iload_n 2, 1) := by decide +kernel
theorem dX6_fill_17 : decode cX6_fill 17 = .ok (.aload_n 0, 1) := by decide +kernel
theorem dX6_fill_18 : decode cX6_fill 18 = .ok (.getfield 98, 3) := by decide +kernel
theorem dX6_fill_21 : decode cX6_fill 21 = .ok (.if_icmp .ge 43, 3) := by decide +kernel
theorem dX6_fill_64 : decode cX6_fill 64 = .ok (.return_, 1) := by decide +kernel
theorem dX6_fill_24 : decode cX6_fill 24 = .ok (.aload_n 0, 1) := by decide +kernel
theorem dX6_fill_25 : decode cX6_fill 25 = .ok (.aload_n 1, 1) := by decide +kernel
theorem dX6_fill_26 : decode cX6_fill 26 = .ok (.iload_n 2, 1) := by decide +kernel
theorem dX6_fill_27 : decode cX6_fill 27 = .ok (.invokevirtual 101, 3) := by decide +kernel
set_option maxRecDepth 20000 in
theorem ggX6_fill_X6_show : GoodIn wsX6_fill wsX6_show := goodIn_ca (goodIn_r _ [14, 15, 16, 8, 17, 18, 19, 20, 13, 21, 22, 23, 24, 25, 26, 27, 28, 29, 30, 31, 32, 33, 34, 35, 36, 37, 38, 39, 40, 41, 42, 43, 94, 95, 96, 97, 81, 82, 83, 84, 85, 86, 87, 88, 89, 90, 91, 92, 93, 98, 99, 100, 101, 102, 103, 104, 105, 106] (by decide +kernel) (by decide +kernel)) (goodIn_sub (fun _ h => List.mem_cons_of_mem _ (List.mem_append_right _ h)) (by decide +kernel))
set_option maxRecDepth 20000 in
theorem gX6_fill_X6_show : GoodIn wsX6_fill (wsV RX6 101 RX6 yX6_show wsX6_show) := goodIn_app (goodIn_of _ (by decide +kernel)) ggX6_fill_X6_show
theorem dX6_fill_30 : decode cX6_fill 30 = .ok (.aload_n 0, 1) := by decide +kernel
theorem dX6_fill_31 : decode cX6_fill 31 = .ok (.getfield 24, 3) := by decide +kernel
theorem dX6_fill_34 : decode cX6_fill 34 = .ok (.iload_n 2, 1) := by decide +kernel
theorem dX6_fill_35 : decode cX6_fill 35 = .ok (.aload_n 1, 1) := by decide +kernel
theorem dX6_fill_36 : decode cX6_fill 36 = .ok (.aload_n 0, 1) := by decide +kernel
theorem dX6_fill_37 : decode cX6_fill 37 = .ok (.getfield 45, 3) := by decide +kernel
theorem dX6_fill_40 : decode cX6_fill 40 = .ok (.invokevirtual 105, 3) := by decide +kernel
set_option maxRecDepth 20000 in
theorem ggX6_fill_X0_totalOf : GoodIn wsX6_fill wsX0_totalOf := goodIn_ca (goodIn_r _ [47, 48, 29, 30, 31, 33, 49, 32, 34, 35, 36, 37, 38, 39, 40, 41, 42, 43, 50, 51, 52, 53, 54, 55, 94, 95, 96, 97, 98, 99, 100, 101, 102, 103, 104, 105, 106, 107, 108, 109, 110, 111, 112, 113] (by decide +kernel) (by decide +kernel)) (goodIn_sub (fun _ h => List.mem_cons_of_mem _ (List.mem_append_right _ h)) (by decide +kernel))
set_option maxRecDepth 20000 in
theorem gX6_fill_X0_totalOf : GoodIn wsX6_fill (wsV RX6 105 RX0 yX0_totalOf wsX0_totalOf) := goodIn_app (goodIn_of _ (by decide +kernel)) ggX6_fill_X0_totalOf
theorem dX6_fill_43 : decode cX6_fill 43 = .ok (.iastore, 1) := by decide +kernel
theorem dX6_fill_44 : decode cX6_fill 44 = .ok (.aload_n 0, 1) := by decide +kernel
theorem dX6_fill_45 : decode cX6_fill 45 = .ok (.getfield 27, 3) := by decide +kernel
theorem dX6_fill_48 : decode cX6_fill 48 = .ok (.iload_n 2, 1) := by decide +kernel
theorem dX6_fill_49 : decode cX6_fill 49 = .ok (.aload_n 1, 1) := by decide +kernel
theorem dX6_fill_50 : decode cX6_fill 50 = .ok (.aload_n 0, 1) := by decide +kernel
theorem dX6_fill_51 : decode cX6_fill 51 = .ok (.getfield 45, 3) := by decide +kernel
theorem dX6_fill_54 : decode cX6_fill 54 = .ok (.invokevirtual 109, 3) := by decide +kernel
set_option maxRecDepth 20000 in
theorem ggX6_fill_X0_movesOf : GoodIn wsX6_fill wsX0_movesOf := goodIn_ca (goodIn_r _ [59, 48, 29, 60, 61, 62, 63, 27, 64, 65, 30, 66, 67, 68, 69, 70, 71, 72, 73, 31, 32, 33, 49, 74, 75, 34, 35, 36, 37, 38, 39, 40, 41, 42, 43, 50, 51, 52, 53, 54, 55, 76, 77, 78, 79, 80, 94, 95, 96, 97, 101, 102, 103, 104, 105, 106, 98, 99, 100, 107, 108, 109, 110, 111, 112, 113] (by decide +kernel) (by decide +kernel)) (goodIn_sub (fun _ h => List.mem_cons_of_mem _ (List.mem_append_right _ h)) (by decide +kernel))
set_option maxRecDepth 20000 in
theorem gX6_fill_X0_movesOf : GoodIn wsX6_fill (wsV RX6 109 RX0 yX0_movesOf wsX0_movesOf) := goodIn_app (goodIn_of _ (by decide +kernel)) ggX6_fill_X0_movesOf
theorem dX6_fill_57 : decode cX6_fill 57 = .ok (.iastore, 1) := by decide +kernel
theorem dX6_fill_58 : decode cX6_fill 58 = .ok (.iinc 2 1, 3) := by decide +kernel
theorem dX6_fill_61 : decode cX6_fill 61 = .ok (.goto (-45), 3) := by decide +kernel
set_option maxHeartbeats 4000000 in
set_option maxRecDepth 100000 in
theorem b_X6_fill {X : VC} {μ : Mem} (β : Mem) (hS : SV β) (hA : AS β μ) (hL1 : PL μ 1) (K : vK X cX6_fill 3 RX6 wsX6_fill ({ frames := 4, cells := 0, slots := 0, locals := 97 } : Room)) (hret : ∀ (ν : Mem), (fun (ν : Mem) => FIl β μ ν (pdI β (pcn β)).toNat) ν → ∀ n pc k1 k2 lv, k1 ≤ 0 → k2 ≤ 0 → decode cX6_fill pc = .ok (.return_, 1) → vW X n pc k1 k2 lv [] ν) : vW X 3 0 0 0 [(0, .ref (vAd X 4)), (1, .ref (vAd X 1))] [] μ := by
  have hpc := hS.1.pc6
  have hpd := pdI_rng6 β (i := pcn β) hpc.1
  have hct : μ 4 11 = pdI β (pcn β) := by rw [hA.2]; exact hS.2.2.2.2
  refine v_aload_n 0 K dX6_fill_0 rfl ?_
  refine v_aload_n 0 K dX6_fill_1 rfl ?_
  refine v_get (c := 4) (k := 11) (C := RX6) (T := TX6) (N := 13) (v := .int (iZ (μ 4 11))) K isO_Sv rfl (fun _ h => (List.mem_cons_of_mem _ (List.mem_append_left _ (List.mem_append_left _ (List.mem_append_left _ (List.mem_append_left _ (List.mem_append_left _ (List.mem_append_right _ h)))))))) (by decide) (List.mem_cons_of_mem _ (List.mem_append_left _ (List.mem_append_left _ (List.mem_append_left _ (List.mem_append_left _ (List.mem_append_left _ (List.mem_append_left _ (List.mem_append_left _ (List.mem_of_getElem? (i := 0) rfl))))))))) rfl dX6_fill_2 rfl ?_
  refine v_top (b := (pdI β (pcn β))) (by rw [hct]) ?_
  refine v_sipush K dX6_fill_5 (by decide) ?_
  refine v_mmin (by omega) (by decide) K (List.mem_cons_of_mem _ (List.mem_append_left _ (List.mem_append_left _ (List.mem_append_left _ (List.mem_append_left _ (List.mem_append_left _ (List.mem_append_left _ (List.mem_append_left _ (List.mem_of_getElem? (i := 1) rfl))))))))) (List.mem_cons_of_mem _ (List.mem_append_left _ (List.mem_append_left _ (List.mem_append_left _ (List.mem_append_left _ (List.mem_append_left _ (List.mem_append_left _ (List.mem_append_left _ (List.mem_of_getElem? (i := 2) rfl))))))))) (List.mem_cons_of_mem _ (List.mem_append_left _ (List.mem_append_left _ (List.mem_append_left _ (List.mem_append_left _ (List.mem_append_left _ (List.mem_append_left _ (List.mem_append_left _ (List.mem_of_getElem? (i := 3) rfl))))))))) (List.mem_cons_of_mem _ (List.mem_append_left _ (List.mem_append_left _ (List.mem_append_left _ (List.mem_append_left _ (List.mem_append_left _ (List.mem_append_left _ (List.mem_append_left _ (List.mem_of_getElem? (i := 4) rfl))))))))) (Nat.le_of_ble_eq_true rfl) (Nat.le_of_ble_eq_true rfl) ⟨(Nat.le_of_ble_eq_true rfl), (Nat.le_of_ble_eq_true rfl)⟩ dX6_fill_8 ?_
  refine v_top (b := (pdI β (pcn β))) (congrArg iZ (by omega)) ?_
  refine v_put (c := 4) (k := 12) (C := RX6) (T := TX6) (N := 13) (ty := .int) K isO_Sv rfl (fun _ h => (List.mem_cons_of_mem _ (List.mem_append_left _ (List.mem_append_left _ (List.mem_append_left _ (List.mem_append_left _ (List.mem_append_left _ (List.mem_append_right _ h)))))))) tyX6_ok nmX6 (by decide) (List.mem_cons_of_mem _ (List.mem_append_left _ (List.mem_append_left _ (List.mem_append_left _ (List.mem_append_left _ (List.mem_append_left _ (List.mem_append_left _ (List.mem_append_left _ (List.mem_of_getElem? (i := 5) rfl))))))))) rfl rfl (by decide +kernel) dX6_fill_11 (fun _ _ _ => rfl) (fun _ _ => Nat.le_of_ble_eq_true rfl) rfl rfl ?_
  obtain ⟨μ1, eμ1⟩ : ∃ μ1 : Mem, μ1 = (upM μ 4 12 (pdI β (pcn β))) := ⟨_, rfl⟩
  rw [← eμ1]
  refine v_iconst K dX6_fill_14 ?_
  refine v_istore_n [(2, .int (iZ 0)), (0, .ref (vAd X 4)), (1, .ref (vAd X 1))] K dX6_fill_15 (by decide) rfl ?_
  have L16 : ∀ (fuel : Nat) (n : Nat) (ξ : Mem) (hm : 1001 - n < fuel) (hn : (n : Int) ≤ pdI β (pcn β)) (hF : FIl β μ ξ n), vW X 3 16 0 0 [(0, .ref (vAd X 4)), (1, .ref (vAd X 1)), (2, .int (iZ (n : Int)))] [] ξ := by
    intro fuel
    induction fuel with
    | zero => intro n ξ hm; exact absurd hm (Nat.not_lt_zero _)
    | succ fuel ih16 =>
      intro n ξ hm hn hF
      refine v_iload_n 2 K dX6_fill_16 rfl ?_
      refine v_aload_n 0 K dX6_fill_17 rfl ?_
      refine v_get (c := 4) (k := 12) (C := RX6) (T := TX6) (N := 13) (v := .int (iZ (ξ 4 12))) K isO_Sv rfl (fun _ h => (List.mem_cons_of_mem _ (List.mem_append_left _ (List.mem_append_left _ (List.mem_append_left _ (List.mem_append_left _ (List.mem_append_left _ (List.mem_append_right _ h)))))))) (by decide) (List.mem_cons_of_mem _ (List.mem_append_left _ (List.mem_append_left _ (List.mem_append_left _ (List.mem_append_left _ (List.mem_append_left _ (List.mem_append_left _ (List.mem_append_left _ (List.mem_of_getElem? (i := 5) rfl))))))))) rfl dX6_fill_18 rfl ?_
      refine v_top (b := (pdI β (pcn β))) (by rw [hF.2.2.1]) ?_
      refine v_icmp_ge 64 K dX6_fill_21 (by decide) (by omega) (by omega) (fun c21 => ?_) (fun c21 => ?_)
      · exact hret _ (by rw [show (pdI β (pcn β)).toNat = n by omega]; exact hF) _ _ _ _ _ (Nat.le_of_ble_eq_true rfl) (Nat.le_of_ble_eq_true rfl) dX6_fill_64
      · refine v_aload_n 0 K dX6_fill_24 rfl ?_
        refine v_aload_n 1 K dX6_fill_25 rfl ?_
        refine v_iload_n 2 K dX6_fill_26 rfl ?_
        refine v_callVv (c := 4) (As := [.ref (vAd X 1), .int (iZ (n : Int))]) (rest := []) K isO_Sv rfl 2 (c_X6_show X.1.2.1 K.2.2.2.2.2.2 _ _ _ ξ β n hS hF.1 hF.2.1 (by omega)) gX6_fill_X6_show rfl rfl rfl (by decide +kernel) ⟨(Nat.le_of_ble_eq_true rfl), (Nat.le_of_ble_eq_true rfl)⟩ rfl rfl (Nat.le_of_ble_eq_true rfl) dX6_fill_27 ⟨(Nat.le_of_ble_eq_true rfl), (Nat.le_of_ble_eq_true rfl)⟩ (fun ξ1 q27 => ?_)
        have hW1 := (SHl_AS hF.1 q27).AB9.WF9 hS.1
        have hB1 := q27.2.2.PB9 hW1
        refine v_aload_n 0 K dX6_fill_30 rfl ?_
        refine v_get (c := 4) (k := 4) (C := RX6) (T := TX6) (N := 13) (v := .ref (vAd X 13)) K isO_Sv rfl (fun _ h => (List.mem_cons_of_mem _ (List.mem_append_left _ (List.mem_append_left _ (List.mem_append_left _ (List.mem_append_left _ (List.mem_append_left _ (List.mem_append_right _ h)))))))) (by decide) (List.mem_cons_of_mem _ (List.mem_append_left _ (List.mem_append_left _ (List.mem_append_left _ (List.mem_append_left _ (List.mem_append_left _ (List.mem_append_left _ (List.mem_append_left _ (List.mem_of_getElem? (i := 6) rfl))))))))) rfl dX6_fill_31 rfl ?_
        refine v_iload_n 2 K dX6_fill_34 rfl ?_
        refine v_aload_n 1 K dX6_fill_35 rfl ?_
        refine v_aload_n 0 K dX6_fill_36 rfl ?_
        refine v_get (c := 4) (k := 10) (C := RX6) (T := TX6) (N := 13) (v := .ref (vAd X (2 + 1))) K isO_Sv rfl (fun _ h => (List.mem_cons_of_mem _ (List.mem_append_left _ (List.mem_append_left _ (List.mem_append_left _ (List.mem_append_left _ (List.mem_append_left _ (List.mem_append_right _ h)))))))) (by decide) (List.mem_cons_of_mem _ (List.mem_append_left _ (List.mem_append_left _ (List.mem_append_left _ (List.mem_append_left _ (List.mem_append_left _ (List.mem_append_left _ (List.mem_append_left _ (List.mem_of_getElem? (i := 7) rfl))))))))) rfl dX6_fill_37 rfl ?_
        refine v_callVir (c := 1) (As := [.ref (vAd X (2 + 1))]) (rest := [.int (iZ (n : Int)), .ref (vAd X 13)]) K isO_Bd rfl 1 (c_X0_totalOf X.1.2.1 K.2.2.2.2.2.2 _ _ _ ξ1 1 (by omega) hW1 hB1) gX6_fill_X0_totalOf rfl rfl rfl (by decide +kernel) ⟨(Nat.le_of_ble_eq_true rfl), (Nat.le_of_ble_eq_true rfl)⟩ rfl rfl (Nat.le_of_ble_eq_true rfl) dX6_fill_40 ⟨(Nat.le_of_ble_eq_true rfl), (Nat.le_of_ble_eq_true rfl)⟩ ?_
        refine v_iast (c := 13) n K isI_13 rfl (by omega) dX6_fill_43 ?_
        obtain ⟨ξ2, eξ2⟩ : ∃ ξ2 : Mem, ξ2 = (upM ξ1 13 n (tot ξ1 1)) := ⟨_, rfl⟩
        rw [← eξ2]
        refine v_aload_n 0 K dX6_fill_44 rfl ?_
        have hA1 := SHl_AS hF.1 q27
        have hW1 := hA1.AB9.WF9 hS.1
        have o2 : ∀ c, c ≠ 13 → ξ2 c = ξ1 c := fun c hc => by rw [eξ2, upM_off hc]
        have hag : AG ξ1 ξ2 1 := ⟨fun c hc => o2 c (by omega), o2 _ (by omega), o2 _ (by omega), by rw [o2 (2 + 1) (by omega)]⟩
        have hW2 := AB.WF9 hag.1 hW1
        have hB2 := (hag.PL9 hW1 q27.2.2).PB9 hW2
        refine v_get (c := 4) (k := 5) (C := RX6) (T := TX6) (N := 13) (v := .ref (vAd X 14)) K isO_Sv rfl (fun _ h => (List.mem_cons_of_mem _ (List.mem_append_left _ (List.mem_append_left _ (List.mem_append_left _ (List.mem_append_left _ (List.mem_append_left _ (List.mem_append_right _ h)))))))) (by decide) (List.mem_cons_of_mem _ (List.mem_append_left _ (List.mem_append_left _ (List.mem_append_left _ (List.mem_append_left _ (List.mem_append_left _ (List.mem_append_left _ (List.mem_append_left _ (List.mem_of_getElem? (i := 8) rfl))))))))) rfl dX6_fill_45 rfl ?_
        refine v_iload_n 2 K dX6_fill_48 rfl ?_
        refine v_aload_n 1 K dX6_fill_49 rfl ?_
        refine v_aload_n 0 K dX6_fill_50 rfl ?_
        refine v_get (c := 4) (k := 10) (C := RX6) (T := TX6) (N := 13) (v := .ref (vAd X (2 + 1))) K isO_Sv rfl (fun _ h => (List.mem_cons_of_mem _ (List.mem_append_left _ (List.mem_append_left _ (List.mem_append_left _ (List.mem_append_left _ (List.mem_append_left _ (List.mem_append_right _ h)))))))) (by decide) (List.mem_cons_of_mem _ (List.mem_append_left _ (List.mem_append_left _ (List.mem_append_left _ (List.mem_append_left _ (List.mem_append_left _ (List.mem_append_left _ (List.mem_append_left _ (List.mem_of_getElem? (i := 7) rfl))))))))) rfl dX6_fill_51 rfl ?_
        refine v_callVir (c := 1) (As := [.ref (vAd X (2 + 1))]) (rest := [.int (iZ (n : Int)), .ref (vAd X 14)]) K isO_Bd rfl 1 (c_X0_movesOf X.1.2.1 K.2.2.2.2.2.2 _ _ _ ξ2 1 (by omega) hW2 hB2) gX6_fill_X0_movesOf rfl rfl rfl (by decide +kernel) ⟨(Nat.le_of_ble_eq_true rfl), (Nat.le_of_ble_eq_true rfl)⟩ rfl rfl (Nat.le_of_ble_eq_true rfl) dX6_fill_54 ⟨(Nat.le_of_ble_eq_true rfl), (Nat.le_of_ble_eq_true rfl)⟩ ?_
        refine v_iast (c := 14) n K isI_14 rfl (by omega) dX6_fill_57 ?_
        obtain ⟨ξ3, eξ3⟩ : ∃ ξ3 : Mem, ξ3 = (upM ξ2 14 n (mvs ξ2 1)) := ⟨_, rfl⟩
        rw [← eξ3]
        have hF2 : FIl β μ ξ3 (n + 1) := by rw [eξ3]; exact FIl_s hS hF q27 eξ2
        refine v_iinc 2 [(2, .int (iZ ((n : Int) + 1))), (0, .ref (vAd X 4)), (1, .ref (vAd X 1))] K dX6_fill_58 rfl (by decide) rfl ?_
        refine v_goto 16 K dX6_fill_61 (by decide) ?_
        refine v_sub [1, 2, 0] rfl ?_
        refine v_eq (lv1 := [(0, .ref (vAd X 4)), (1, .ref (vAd X 1)), (2, .int (iZ (((n + 1) : Nat) : Int)))]) (st1 := []) (v_c0 (v_c0 (v_cI (by first | rfl | omega) rfl))) rfl ?_
        exact ih16 (n + 1) ξ3 (by omega) (by omega) hF2
  refine v_sub [1, 2, 0] rfl ?_
  refine v_eq (lv1 := [(0, .ref (vAd X 4)), (1, .ref (vAd X 1)), (2, .int (iZ ((0 : Nat) : Int)))]) (st1 := []) (v_c0 (v_c0 (v_cI (by first | rfl | omega) rfl))) rfl ?_
  exact L16 (1001 - 0 + 1) 0 μ1 (by omega) (by omega) (FIl_0 hA hL1 hS eμ1)
theorem c_X6_fill (l : Launch) (hl : l.stackTraces = false) (D : va_G) (cy : Nat → ClassId) (ad : Nat → Nat) (μ : Mem) (β : Mem) (hS : SV β) (hA : AS β μ) (hL1 : PL μ 1) : cV l yX6_fill wsX6_fill ({ frames := 4, cells := 0, slots := 0, locals := 97 } : Room) D cy ad μ [.ref (ad 4), .ref (ad 1)] (fun (ν : Mem) => FIl β μ ν (pdI β (pcn β)).toNat) :=
  m_void (av := (fun ad => [.ref (ad 4), .ref (ad 1)])) hl (by decide) rfl rfl (Nat.le_of_ble_eq_true rfl) (fun X K hret => b_X6_fill β hS hA hL1 K hret)
theorem dX6_isAtRest_0 : decode cX6_isAtRest 0 = .ok (.aload_n 0, 1) := by decide +kernel
theorem dX6_isAtRest_1 : decode cX6_isAtRest 1 = .ok (.getfield 27, 3) := by decide +kernel
theorem dX6_isAtRest_4 : decode cX6_isAtRest 4 = .ok (.iload_n 1, 1) := by decide +kernel
theorem dX6_isAtRest_5 : decode cX6_isAtRest 5 = .ok (.iaload, 1) := by decide +kernel
theorem dX6_isAtRest_6 : decode cX6_isAtRest 6 = .ok (.ifCond .ne 7, 3) := by decide +kernel
theorem dX6_isAtRest_13 : decode cX6_isAtRest 13 = .ok (.iconst 0, 1) := by decide +kernel
theorem dX6_isAtRest_14 : decode cX6_isAtRest 14 = .ok (.ireturn, 1) := by decide +kernel
theorem dX6_isAtRest_9 : decode cX6_isAtRest 9 = .ok (.iconst 1, 1) := by decide +kernel
theorem dX6_isAtRest_10 : decode cX6_isAtRest 10 = .ok (.goto 4, 3) := by decide +kernel
set_option maxHeartbeats 4000000 in
set_option maxRecDepth 100000 in
theorem b_X6_isAtRest {X : VC} {μ : Mem} (k : Nat) (hk : k < 1000) (hr : 0 ≤ μ 14 k ∧ μ 14 k ≤ 1073741824) (K : vK X cX6_isAtRest 2 RX6 wsX6_isAtRest ({ frames := 0, cells := 0, slots := 0, locals := 0 } : Room)) (hret : ∀ (z : Int) (ν : Mem), (fun (z : Int) (ν : Mem) => z = carF μ k ∧ ν = μ) z ν → ∀ n pc k1 k2 lv, k1 ≤ 0 → k2 ≤ 0 → decode cX6_isAtRest pc = .ok (.ireturn, 1) → vW X n pc k1 k2 lv [.int (iZ z)] ν) : vW X 2 0 0 0 [(0, .ref (vAd X 4)), (1, .int (iZ (k : Int)))] [] μ := by
  refine v_aload_n 0 K dX6_isAtRest_0 rfl ?_
  refine v_get (c := 4) (k := 5) (C := RX6) (T := TX6) (N := 13) (v := .ref (vAd X 14)) K isO_Sv rfl (fun _ h => (List.mem_cons_of_mem _ (List.mem_append_left _ (List.mem_append_right _ h)))) (by decide) (List.mem_cons_of_mem _ (List.mem_append_left _ (List.mem_append_left _ (List.mem_of_getElem? (i := 0) rfl)))) rfl dX6_isAtRest_1 rfl ?_
  refine v_iload_n 1 K dX6_isAtRest_4 rfl ?_
  refine v_iald (c := 14) k K isI_14 rfl (by omega) dX6_isAtRest_5 ?_
  refine v_if_ne 13 K dX6_isAtRest_6 (by decide) (by omega) (fun c6 => ?_) (fun c6 => ?_)
  · refine v_iconst K dX6_isAtRest_13 ?_
    exact hret _ _ ⟨(by unfold carF; rw [if_neg (by omega)]), rfl⟩ _ _ _ _ _ (Nat.le_of_ble_eq_true rfl) (Nat.le_of_ble_eq_true rfl) dX6_isAtRest_14
  · refine v_iconst K dX6_isAtRest_9 ?_
    refine v_goto 14 K dX6_isAtRest_10 (by decide) ?_
    exact hret _ _ ⟨(by unfold carF; rw [if_pos (by omega)]), rfl⟩ _ _ _ _ _ (Nat.le_of_ble_eq_true rfl) (Nat.le_of_ble_eq_true rfl) dX6_isAtRest_14
theorem c_X6_isAtRest (l : Launch) (hl : l.stackTraces = false) (D : va_G) (cy : Nat → ClassId) (ad : Nat → Nat) (μ : Mem) (k : Nat) (hk : k < 1000) (hr : 0 ≤ μ 14 k ∧ μ 14 k ≤ 1073741824) : cI l yX6_isAtRest wsX6_isAtRest ({ frames := 0, cells := 0, slots := 0, locals := 0 } : Room) D cy ad μ [.ref (ad 4), .int (iZ (k : Int))] (fun (z : Int) (ν : Mem) => z = carF μ k ∧ ν = μ) :=
  m_int (av := (fun ad => [.ref (ad 4), .int (iZ (k : Int))])) hl (by decide) rfl rfl (Nat.le_of_ble_eq_true rfl) (fun z ν q => (nar_z (by rw [q.1]; unfold carF; split <;> omega)).1) (fun X K hret => b_X6_isAtRest k hk hr K hret)
theorem dX6_countAtRest_0 : decode cX6_countAtRest 0 = .ok (.iconst 0, 1) := by decide +kernel
theorem dX6_countAtRest_1 : decode cX6_countAtRest 1 = .ok (.istore_n 1, 1) := by decide +kernel
theorem dX6_countAtRest_2 : decode cX6_countAtRest 2 = .ok (.iconst 0, 1) := by decide +kernel
theorem dX6_countAtRest_3 : decode cX6_countAtRest 3 = .ok (.istore_n 2, 1) := by decide +kernel
theorem dX6_countAtRest_4 : decode cX6_countAtRest 4 = .ok (.iload_n 2, 1) := by decide +kernel
theorem dX6_countAtRest_5 : decode cX6_countAtRest 5 = .ok (.aload_n 0, 1) := by decide +kernel
theorem dX6_countAtRest_6 : decode cX6_countAtRest 6 = .ok (.getfield 98, 3) := by decide +kernel
theorem dX6_countAtRest_9 : decode cX6_countAtRest 9 = .ok (.if_icmp .ge 20, 3) := by decide +kernel
theorem dX6_countAtRest_29 : decode cX6_countAtRest 29 = .ok (.iload_n 1, 1) := by decide +kernel
theorem dX6_countAtRest_30 : decode cX6_countAtRest 30 = .ok (.ireturn, 1) := by decide +kernel
theorem dX6_countAtRest_12 : decode cX6_countAtRest 12 = .ok (.aload_n 0, 1) := by decide +kernel
theorem dX6_countAtRest_13 : decode cX6_countAtRest 13 = .ok (.iload_n 2, 1) := by decide +kernel
theorem dX6_countAtRest_14 : decode cX6_countAtRest 14 = .ok (.invokevirtual 112, 3) := by decide +kernel
set_option maxRecDepth 20000 in
theorem ggX6_countAtRest_X6_isAtRest : GoodIn wsX6_countAtRest wsX6_isAtRest := goodIn_ca (goodIn_r _ [6, 7, 8, 9, 10, 11, 12, 13, 14, 15, 16, 17, 18, 19, 20] (by decide +kernel) (by decide +kernel)) (goodIn_sub (fun _ h => List.mem_cons_of_mem _ (List.mem_append_right _ h)) (by decide +kernel))
set_option maxRecDepth 20000 in
theorem gX6_countAtRest_X6_isAtRest : GoodIn wsX6_countAtRest (wsV RX6 112 RX6 yX6_isAtRest wsX6_isAtRest) := goodIn_app (goodIn_of _ (by decide +kernel)) ggX6_countAtRest_X6_isAtRest
theorem dX6_countAtRest_17 : decode cX6_countAtRest 17 = .ok (.ifCond .eq 6, 3) := by decide +kernel
theorem dX6_countAtRest_23 : decode cX6_countAtRest 23 = .ok (.iinc 2 1, 3) := by decide +kernel
theorem dX6_countAtRest_26 : decode cX6_countAtRest 26 = .ok (.goto (-22), 3) := by decide +kernel
theorem dX6_countAtRest_20 : decode cX6_countAtRest 20 = .ok (.iinc 1 1, 3) := by decide +kernel
set_option maxHeartbeats 4000000 in
set_option maxRecDepth 100000 in
theorem b_X6_countAtRest {X : VC} {μ : Mem} (n : Nat) (hn : n ≤ 1000) (hf : μ 4 12 = (n : Int)) (hr : ∀ k, k < n → 0 ≤ μ 14 k ∧ μ 14 k ≤ 1073741824) (K : vK X cX6_countAtRest 3 RX6 wsX6_countAtRest ({ frames := 1, cells := 0, slots := 0, locals := 21 } : Room)) (hret : ∀ (z : Int) (ν : Mem), (fun (z : Int) (ν : Mem) => z = sm n (carF μ) ∧ ν = μ) z ν → ∀ n pc k1 k2 lv, k1 ≤ 0 → k2 ≤ 0 → decode cX6_countAtRest pc = .ok (.ireturn, 1) → vW X n pc k1 k2 lv [.int (iZ z)] ν) : vW X 3 0 0 0 [(0, .ref (vAd X 4))] [] μ := by
  refine v_iconst K dX6_countAtRest_0 ?_
  refine v_istore_n [(1, .int (iZ 0)), (0, .ref (vAd X 4))] K dX6_countAtRest_1 (by decide) rfl ?_
  refine v_iconst K dX6_countAtRest_2 ?_
  refine v_istore_n [(2, .int (iZ 0)), (1, .int (iZ 0)), (0, .ref (vAd X 4))] K dX6_countAtRest_3 (by decide) rfl ?_
  have L4 : ∀ (fuel : Nat) (k : Nat) (hm : 1001 - k < fuel) (hk : k ≤ n), vW X 3 4 0 0 [(0, .ref (vAd X 4)), (1, .int (iZ (sm k (carF μ)))), (2, .int (iZ (k : Int)))] [] μ := by
    intro fuel
    induction fuel with
    | zero => intro k hm; exact absurd hm (Nat.not_lt_zero _)
    | succ fuel ih4 =>
      intro k hm hk
      refine v_iload_n 2 K dX6_countAtRest_4 rfl ?_
      refine v_aload_n 0 K dX6_countAtRest_5 rfl ?_
      refine v_get (c := 4) (k := 12) (C := RX6) (T := TX6) (N := 13) (v := .int (iZ (μ 4 12))) K isO_Sv rfl (fun _ h => (List.mem_cons_of_mem _ (List.mem_append_left _ (List.mem_append_right _ h)))) (by decide) (List.mem_cons_of_mem _ (List.mem_append_left _ (List.mem_append_left _ (List.mem_of_getElem? (i := 0) rfl)))) rfl dX6_countAtRest_6 rfl ?_
      refine v_icmp_ge 29 K dX6_countAtRest_9 (by decide) (by omega) (by omega) (fun c9 => ?_) (fun c9 => ?_)
      · refine v_iload_n 1 K dX6_countAtRest_29 rfl ?_
        exact hret _ _ ⟨(by rw [show n = k by omega]), rfl⟩ _ _ _ _ _ (Nat.le_of_ble_eq_true rfl) (Nat.le_of_ble_eq_true rfl) dX6_countAtRest_30
      · have hrk := hr k (by omega)
        have hc01 : carF μ k = 0 ∨ carF μ k = 1 := by unfold carF; split <;> simp
        refine v_aload_n 0 K dX6_countAtRest_12 rfl ?_
        refine v_iload_n 2 K dX6_countAtRest_13 rfl ?_
        refine v_callVir (c := 4) (As := [.int (iZ (k : Int))]) (rest := []) K isO_Sv rfl 1 (c_X6_isAtRest X.1.2.1 K.2.2.2.2.2.2 _ _ _ μ k (by omega) (by omega)) gX6_countAtRest_X6_isAtRest rfl rfl rfl (by decide +kernel) ⟨(Nat.le_of_ble_eq_true rfl), (Nat.le_of_ble_eq_true rfl)⟩ rfl rfl (Nat.le_of_ble_eq_true rfl) dX6_countAtRest_14 ⟨(Nat.le_of_ble_eq_true rfl), (Nat.le_of_ble_eq_true rfl)⟩ ?_
        refine v_if_eq 23 K dX6_countAtRest_17 (by decide) (by omega) (fun c17 => ?_) (fun c17 => ?_)
        · refine v_iinc 2 [(2, .int (iZ ((k : Int) + 1))), (0, .ref (vAd X 4)), (1, .int (iZ (sm k (carF μ))))] K dX6_countAtRest_23 rfl (by decide) rfl ?_
          refine v_goto 4 K dX6_countAtRest_26 (by decide) ?_
          refine v_sub [1, 2, 0] rfl ?_
          refine v_eq (lv1 := [(0, .ref (vAd X 4)), (1, .int (iZ (sm (k + 1) (carF μ)))), (2, .int (iZ (((k + 1) : Nat) : Int)))]) (st1 := []) (v_c0 (v_cI (by rw [sm_s]; omega) (v_cI (by first | rfl | omega) rfl))) rfl ?_
          exact ih4 (k + 1) (by omega) (by omega)
        · refine v_iinc 1 [(1, .int (iZ ((sm k (carF μ)) + 1))), (0, .ref (vAd X 4)), (2, .int (iZ (k : Int)))] K dX6_countAtRest_20 rfl (by decide) rfl ?_
          refine v_iinc 2 [(2, .int (iZ ((k : Int) + 1))), (1, .int (iZ ((sm k (carF μ)) + 1))), (0, .ref (vAd X 4))] K dX6_countAtRest_23 rfl (by decide) rfl ?_
          refine v_goto 4 K dX6_countAtRest_26 (by decide) ?_
          refine v_sub [2, 1, 0] rfl ?_
          refine v_eq (lv1 := [(0, .ref (vAd X 4)), (1, .int (iZ (sm (k + 1) (carF μ)))), (2, .int (iZ (((k + 1) : Nat) : Int)))]) (st1 := []) (v_c0 (v_cI (by rw [sm_s]; omega) (v_cI (by first | rfl | omega) rfl))) rfl ?_
          exact ih4 (k + 1) (by omega) (by omega)
  refine v_sub [2, 1, 0] rfl ?_
  refine v_eq (lv1 := [(0, .ref (vAd X 4)), (1, .int (iZ (sm 0 (carF μ)))), (2, .int (iZ ((0 : Nat) : Int)))]) (st1 := []) (v_c0 (v_cI (by first | rfl | omega) (v_cI (by first | rfl | omega) rfl))) rfl ?_
  exact L4 (1001 - 0 + 1) 0 (by omega) (by omega)
theorem c_X6_countAtRest (l : Launch) (hl : l.stackTraces = false) (D : va_G) (cy : Nat → ClassId) (ad : Nat → Nat) (μ : Mem) (n : Nat) (hn : n ≤ 1000) (hf : μ 4 12 = (n : Int)) (hr : ∀ k, k < n → 0 ≤ μ 14 k ∧ μ 14 k ≤ 1073741824) : cI l yX6_countAtRest wsX6_countAtRest ({ frames := 1, cells := 0, slots := 0, locals := 21 } : Room) D cy ad μ [.ref (ad 4)] (fun (z : Int) (ν : Mem) => z = sm n (carF μ) ∧ ν = μ) :=
  m_int (av := (fun ad => [.ref (ad 4)])) hl (by decide) rfl rfl (Nat.le_of_ble_eq_true rfl) (fun _ _ _ => rfl) (fun X K hret => b_X6_countAtRest n hn hf hr K hret)
theorem dX6_forget_0 : decode cX6_forget 0 = .ok (.iconst 0, 1) := by decide +kernel
theorem dX6_forget_1 : decode cX6_forget 1 = .ok (.istore_n 1, 1) := by decide +kernel
theorem dX6_forget_2 : decode cX6_forget 2 = .ok (.iload_n 1, 1) := by decide +kernel
theorem dX6_forget_3 : decode cX6_forget 3 = .ok (.aload_n 0, 1) := by decide +kernel
theorem dX6_forget_4 : decode cX6_forget 4 = .ok (.getfield 98, 3) := by decide +kernel
theorem dX6_forget_7 : decode cX6_forget 7 = .ok (.if_icmp .ge 16, 3) := by decide +kernel
theorem dX6_forget_23 : decode cX6_forget 23 = .ok (.return_, 1) := by decide +kernel
theorem dX6_forget_10 : decode cX6_forget 10 = .ok (.aload_n 0, 1) := by decide +kernel
theorem dX6_forget_11 : decode cX6_forget 11 = .ok (.getfield 30, 3) := by decide +kernel
theorem dX6_forget_14 : decode cX6_forget 14 = .ok (.iload_n 1, 1) := by decide +kernel
theorem dX6_forget_15 : decode cX6_forget 15 = .ok (.iconst 0, 1) := by decide +kernel
theorem dX6_forget_16 : decode cX6_forget 16 = .ok (.iastore, 1) := by decide +kernel
theorem dX6_forget_17 : decode cX6_forget 17 = .ok (.iinc 1 1, 3) := by decide +kernel
theorem dX6_forget_20 : decode cX6_forget 20 = .ok (.goto (-18), 3) := by decide +kernel
set_option maxHeartbeats 4000000 in
set_option maxRecDepth 100000 in
theorem b_X6_forget {X : VC} {μ : Mem} (n : Nat) (hn : n ≤ 1000) (hf : μ 4 12 = (n : Int)) (K : vK X cX6_forget 2 RX6 wsX6_forget ({ frames := 0, cells := 0, slots := 0, locals := 0 } : Room)) (hret : ∀ (ν : Mem), (fun (ν : Mem) => (∀ c, c ≠ 15 → ν c = μ c) ∧ ∀ k, k < n → ν 15 k = 0) ν → ∀ n pc k1 k2 lv, k1 ≤ 0 → k2 ≤ 0 → decode cX6_forget pc = .ok (.return_, 1) → vW X n pc k1 k2 lv [] ν) : vW X 2 0 0 0 [(0, .ref (vAd X 4))] [] μ := by
  refine v_iconst K dX6_forget_0 ?_
  refine v_istore_n [(1, .int (iZ 0)), (0, .ref (vAd X 4))] K dX6_forget_1 (by decide) rfl ?_
  have L2 : ∀ (fuel : Nat) (k : Nat) (ξ : Mem) (hm : 1001 - k < fuel) (hk : k ≤ n) (h1 : ∀ c, c ≠ 15 → ξ c = μ c) (h2 : ∀ j, j < k → ξ 15 j = 0), vW X 2 2 0 0 [(0, .ref (vAd X 4)), (1, .int (iZ (k : Int)))] [] ξ := by
    intro fuel
    induction fuel with
    | zero => intro k ξ hm; exact absurd hm (Nat.not_lt_zero _)
    | succ fuel ih2 =>
      intro k ξ hm hk h1 h2
      refine v_iload_n 1 K dX6_forget_2 rfl ?_
      have h4 : ξ 4 12 = (n : Int) := by rw [h1 4 (by omega)]; exact hf
      refine v_aload_n 0 K dX6_forget_3 rfl ?_
      refine v_get (c := 4) (k := 12) (C := RX6) (T := TX6) (N := 13) (v := .int (iZ (ξ 4 12))) K isO_Sv rfl (fun _ h => (List.mem_cons_of_mem _ (List.mem_append_left _ (List.mem_append_right _ h)))) (by decide) (List.mem_cons_of_mem _ (List.mem_append_left _ (List.mem_append_left _ (List.mem_of_getElem? (i := 0) rfl)))) rfl dX6_forget_4 rfl ?_
      refine v_top (b := (n : Int)) (by rw [h4]) ?_
      refine v_icmp_ge 23 K dX6_forget_7 (by decide) (by omega) (by omega) (fun c7 => ?_) (fun c7 => ?_)
      · exact hret _ ⟨h1, fun j hj => h2 j (by omega)⟩ _ _ _ _ _ (Nat.le_of_ble_eq_true rfl) (Nat.le_of_ble_eq_true rfl) dX6_forget_23
      · refine v_aload_n 0 K dX6_forget_10 rfl ?_
        refine v_get (c := 4) (k := 6) (C := RX6) (T := TX6) (N := 13) (v := .ref (vAd X 15)) K isO_Sv rfl (fun _ h => (List.mem_cons_of_mem _ (List.mem_append_left _ (List.mem_append_right _ h)))) (by decide) (List.mem_cons_of_mem _ (List.mem_append_left _ (List.mem_append_left _ (List.mem_of_getElem? (i := 1) rfl)))) rfl dX6_forget_11 rfl ?_
        refine v_iload_n 1 K dX6_forget_14 rfl ?_
        refine v_iconst K dX6_forget_15 ?_
        refine v_iast (c := 15) k K isI_15 rfl (by omega) dX6_forget_16 ?_
        refine v_iinc 1 [(1, .int (iZ ((k : Int) + 1))), (0, .ref (vAd X 4))] K dX6_forget_17 rfl (by decide) rfl ?_
        refine v_goto 2 K dX6_forget_20 (by decide) ?_
        refine v_sub [1, 0] rfl ?_
        refine v_eq (lv1 := [(0, .ref (vAd X 4)), (1, .int (iZ (((k + 1) : Nat) : Int)))]) (st1 := []) (v_c0 (v_cI (by first | rfl | omega) rfl)) rfl ?_
        exact ih2 (k + 1) (upM ξ 15 k 0) (by omega) (by omega) (fun c hc => by rw [upM_off hc]; exact h1 c hc) (fun j hj => by by_cases e : j = k; rw [e, upM_self]; rw [upM_ne (Or.inr e)]; exact h2 j (by omega))
  refine v_sub [1, 0] rfl ?_
  refine v_eq (lv1 := [(0, .ref (vAd X 4)), (1, .int (iZ ((0 : Nat) : Int)))]) (st1 := []) (v_c0 (v_cI (by first | rfl | omega) rfl)) rfl ?_
  exact L2 (1001 - 0 + 1) 0 μ (by omega) (by omega) (fun _ _ => rfl) (fun j hj => by omega)
theorem c_X6_forget (l : Launch) (hl : l.stackTraces = false) (D : va_G) (cy : Nat → ClassId) (ad : Nat → Nat) (μ : Mem) (n : Nat) (hn : n ≤ 1000) (hf : μ 4 12 = (n : Int)) : cV l yX6_forget wsX6_forget ({ frames := 0, cells := 0, slots := 0, locals := 0 } : Room) D cy ad μ [.ref (ad 4)] (fun (ν : Mem) => (∀ c, c ≠ 15 → ν c = μ c) ∧ ∀ k, k < n → ν 15 k = 0) :=
  m_void (av := (fun ad => [.ref (ad 4)])) hl (by decide) rfl rfl (Nat.le_of_ble_eq_true rfl) (fun X K hret => b_X6_forget n hn hf K hret)
theorem dX6_enter_0 : decode cX6_enter 0 = .ok (.aload_n 0, 1) := by decide +kernel
theorem dX6_enter_1 : decode cX6_enter 1 = .ok (.getfield 39, 3) := by decide +kernel
theorem dX6_enter_4 : decode cX6_enter 4 = .ok (.iload_n 2, 1) := by decide +kernel
theorem dX6_enter_5 : decode cX6_enter 5 = .ok (.iload_n 1, 1) := by decide +kernel
theorem dX6_enter_6 : decode cX6_enter 6 = .ok (.iastore, 1) := by decide +kernel
theorem dX6_enter_7 : decode cX6_enter 7 = .ok (.aload_n 0, 1) := by decide +kernel
theorem dX6_enter_8 : decode cX6_enter 8 = .ok (.getfield 30, 3) := by decide +kernel
theorem dX6_enter_11 : decode cX6_enter 11 = .ok (.iload_n 1, 1) := by decide +kernel
theorem dX6_enter_12 : decode cX6_enter 12 = .ok (.iconst 1, 1) := by decide +kernel
theorem dX6_enter_13 : decode cX6_enter 13 = .ok (.iastore, 1) := by decide +kernel
theorem dX6_enter_14 : decode cX6_enter 14 = .ok (.aload_n 0, 1) := by decide +kernel
theorem dX6_enter_15 : decode cX6_enter 15 = .ok (.getfield 36, 3) := by decide +kernel
theorem dX6_enter_18 : decode cX6_enter 18 = .ok (.iload_n 1, 1) := by decide +kernel
theorem dX6_enter_19 : decode cX6_enter 19 = .ok (.iconst 0, 1) := by decide +kernel
theorem dX6_enter_20 : decode cX6_enter 20 = .ok (.iastore, 1) := by decide +kernel
theorem dX6_enter_21 : decode cX6_enter 21 = .ok (.aload_n 0, 1) := by decide +kernel
theorem dX6_enter_22 : decode cX6_enter 22 = .ok (.getfield 33, 3) := by decide +kernel
theorem dX6_enter_25 : decode cX6_enter 25 = .ok (.iload_n 1, 1) := by decide +kernel
theorem dX6_enter_26 : decode cX6_enter 26 = .ok (.iconst 0, 1) := by decide +kernel
theorem dX6_enter_27 : decode cX6_enter 27 = .ok (.iastore, 1) := by decide +kernel
theorem dX6_enter_28 : decode cX6_enter 28 = .ok (.return_, 1) := by decide +kernel
set_option maxHeartbeats 4000000 in
set_option maxRecDepth 100000 in
theorem b_X6_enter {X : VC} {μ : Mem} (k : Nat) (t : Nat) (hk : k < 1000) (ht : t < 1000) (K : vK X cX6_enter 3 RX6 wsX6_enter ({ frames := 0, cells := 0, slots := 0, locals := 0 } : Room)) (hret : ∀ (ν : Mem), (fun (ν : Mem) => ENT μ ν k t) ν → ∀ n pc k1 k2 lv, k1 ≤ 0 → k2 ≤ 0 → decode cX6_enter pc = .ok (.return_, 1) → vW X n pc k1 k2 lv [] ν) : vW X 3 0 0 0 [(0, .ref (vAd X 4)), (1, .int (iZ (k : Int))), (2, .int (iZ (t : Int)))] [] μ := by
  refine v_aload_n 0 K dX6_enter_0 rfl ?_
  refine v_get (c := 4) (k := 9) (C := RX6) (T := TX6) (N := 13) (v := .ref (vAd X 18)) K isO_Sv rfl (fun _ h => (List.mem_cons_of_mem _ (List.mem_append_left _ (List.mem_append_right _ h)))) (by decide) (List.mem_cons_of_mem _ (List.mem_append_left _ (List.mem_append_left _ (List.mem_of_getElem? (i := 0) rfl)))) rfl dX6_enter_1 rfl ?_
  refine v_iload_n 2 K dX6_enter_4 rfl ?_
  refine v_iload_n 1 K dX6_enter_5 rfl ?_
  refine v_iast (c := 18) t K isI_18 rfl (by omega) dX6_enter_6 ?_
  refine v_aload_n 0 K dX6_enter_7 rfl ?_
  refine v_get (c := 4) (k := 6) (C := RX6) (T := TX6) (N := 13) (v := .ref (vAd X 15)) K isO_Sv rfl (fun _ h => (List.mem_cons_of_mem _ (List.mem_append_left _ (List.mem_append_right _ h)))) (by decide) (List.mem_cons_of_mem _ (List.mem_append_left _ (List.mem_append_left _ (List.mem_of_getElem? (i := 1) rfl)))) rfl dX6_enter_8 rfl ?_
  refine v_iload_n 1 K dX6_enter_11 rfl ?_
  refine v_iconst K dX6_enter_12 ?_
  refine v_iast (c := 15) k K isI_15 rfl (by omega) dX6_enter_13 ?_
  refine v_aload_n 0 K dX6_enter_14 rfl ?_
  refine v_get (c := 4) (k := 8) (C := RX6) (T := TX6) (N := 13) (v := .ref (vAd X 17)) K isO_Sv rfl (fun _ h => (List.mem_cons_of_mem _ (List.mem_append_left _ (List.mem_append_right _ h)))) (by decide) (List.mem_cons_of_mem _ (List.mem_append_left _ (List.mem_append_left _ (List.mem_of_getElem? (i := 2) rfl)))) rfl dX6_enter_15 rfl ?_
  refine v_iload_n 1 K dX6_enter_18 rfl ?_
  refine v_iconst K dX6_enter_19 ?_
  refine v_iast (c := 17) k K isI_17 rfl (by omega) dX6_enter_20 ?_
  refine v_aload_n 0 K dX6_enter_21 rfl ?_
  refine v_get (c := 4) (k := 7) (C := RX6) (T := TX6) (N := 13) (v := .ref (vAd X 16)) K isO_Sv rfl (fun _ h => (List.mem_cons_of_mem _ (List.mem_append_left _ (List.mem_append_right _ h)))) (by decide) (List.mem_cons_of_mem _ (List.mem_append_left _ (List.mem_append_left _ (List.mem_of_getElem? (i := 3) rfl)))) rfl dX6_enter_22 rfl ?_
  refine v_iload_n 1 K dX6_enter_25 rfl ?_
  refine v_iconst K dX6_enter_26 ?_
  refine v_iast (c := 16) k K isI_16 rfl (by omega) dX6_enter_27 ?_
  exact hret _ rfl _ _ _ _ _ (Nat.le_of_ble_eq_true rfl) (Nat.le_of_ble_eq_true rfl) dX6_enter_28
theorem c_X6_enter (l : Launch) (hl : l.stackTraces = false) (D : va_G) (cy : Nat → ClassId) (ad : Nat → Nat) (μ : Mem) (k : Nat) (t : Nat) (hk : k < 1000) (ht : t < 1000) : cV l yX6_enter wsX6_enter ({ frames := 0, cells := 0, slots := 0, locals := 0 } : Room) D cy ad μ [.ref (ad 4), .int (iZ (k : Int)), .int (iZ (t : Int))] (fun (ν : Mem) => ENT μ ν k t) :=
  m_void (av := (fun ad => [.ref (ad 4), .int (iZ (k : Int)), .int (iZ (t : Int))])) hl (by decide) rfl rfl (Nat.le_of_ble_eq_true rfl) (fun X K hret => b_X6_enter k t hk ht K hret)
theorem dX6_lengthen_0 : decode cX6_lengthen 0 = .ok (.aload_n 0, 1) := by decide +kernel
theorem dX6_lengthen_1 : decode cX6_lengthen 1 = .ok (.getfield 33, 3) := by decide +kernel
theorem dX6_lengthen_4 : decode cX6_lengthen 4 = .ok (.iload_n 1, 1) := by decide +kernel
theorem dX6_lengthen_5 : decode cX6_lengthen 5 = .ok (.aload_n 0, 1) := by decide +kernel
theorem dX6_lengthen_6 : decode cX6_lengthen 6 = .ok (.getfield 33, 3) := by decide +kernel
theorem dX6_lengthen_9 : decode cX6_lengthen 9 = .ok (.iload_n 1, 1) := by decide +kernel
theorem dX6_lengthen_10 : decode cX6_lengthen 10 = .ok (.iaload, 1) := by decide +kernel
theorem dX6_lengthen_11 : decode cX6_lengthen 11 = .ok (.aload_n 0, 1) := by decide +kernel
theorem dX6_lengthen_12 : decode cX6_lengthen 12 = .ok (.getfield 33, 3) := by decide +kernel
theorem dX6_lengthen_15 : decode cX6_lengthen 15 = .ok (.iload_n 2, 1) := by decide +kernel
theorem dX6_lengthen_16 : decode cX6_lengthen 16 = .ok (.iaload, 1) := by decide +kernel
theorem dX6_lengthen_17 : decode cX6_lengthen 17 = .ok (.iconst 1, 1) := by decide +kernel
theorem dX6_lengthen_18 : decode cX6_lengthen 18 = .ok (.iadd, 1) := by decide +kernel
theorem dX6_lengthen_19 : decode cX6_lengthen 19 = .ok (.invokestatic 116, 3) := by decide +kernel
theorem dX6_lengthen_22 : decode cX6_lengthen 22 = .ok (.iastore, 1) := by decide +kernel
theorem dX6_lengthen_23 : decode cX6_lengthen 23 = .ok (.return_, 1) := by decide +kernel
set_option maxHeartbeats 4000000 in
set_option maxRecDepth 100000 in
theorem b_X6_lengthen {X : VC} {μ : Mem} (k : Nat) (j : Nat) (hk : k < 1000) (hj : j < 1000) (K : vK X cX6_lengthen 3 RX6 wsX6_lengthen ({ frames := 1, cells := 0, slots := 0, locals := 15 } : Room)) (hret : ∀ (ν : Mem), (fun (ν : Mem) => ∃ x, ν = upM μ 16 k x) ν → ∀ n pc k1 k2 lv, k1 ≤ 0 → k2 ≤ 0 → decode cX6_lengthen pc = .ok (.return_, 1) → vW X n pc k1 k2 lv [] ν) : vW X 3 0 0 0 [(0, .ref (vAd X 4)), (1, .int (iZ (k : Int))), (2, .int (iZ (j : Int)))] [] μ := by
  refine v_aload_n 0 K dX6_lengthen_0 rfl ?_
  refine v_get (c := 4) (k := 7) (C := RX6) (T := TX6) (N := 13) (v := .ref (vAd X 16)) K isO_Sv rfl (fun _ h => (List.mem_cons_of_mem _ (List.mem_append_left _ (List.mem_append_right _ h)))) (by decide) (List.mem_cons_of_mem _ (List.mem_append_left _ (List.mem_append_left _ (List.mem_of_getElem? (i := 0) rfl)))) rfl dX6_lengthen_1 rfl ?_
  refine v_iload_n 1 K dX6_lengthen_4 rfl ?_
  refine v_aload_n 0 K dX6_lengthen_5 rfl ?_
  refine v_get (c := 4) (k := 7) (C := RX6) (T := TX6) (N := 13) (v := .ref (vAd X 16)) K isO_Sv rfl (fun _ h => (List.mem_cons_of_mem _ (List.mem_append_left _ (List.mem_append_right _ h)))) (by decide) (List.mem_cons_of_mem _ (List.mem_append_left _ (List.mem_append_left _ (List.mem_of_getElem? (i := 0) rfl)))) rfl dX6_lengthen_6 rfl ?_
  refine v_iload_n 1 K dX6_lengthen_9 rfl ?_
  refine v_iald (c := 16) k K isI_16 rfl (by omega) dX6_lengthen_10 ?_
  refine v_top (b := ((iZ (μ 16 k)).toInt)) (iZ_of _).symm ?_
  refine v_aload_n 0 K dX6_lengthen_11 rfl ?_
  refine v_get (c := 4) (k := 7) (C := RX6) (T := TX6) (N := 13) (v := .ref (vAd X 16)) K isO_Sv rfl (fun _ h => (List.mem_cons_of_mem _ (List.mem_append_left _ (List.mem_append_right _ h)))) (by decide) (List.mem_cons_of_mem _ (List.mem_append_left _ (List.mem_append_left _ (List.mem_of_getElem? (i := 0) rfl)))) rfl dX6_lengthen_12 rfl ?_
  refine v_iload_n 2 K dX6_lengthen_15 rfl ?_
  refine v_iald (c := 16) j K isI_16 rfl (by omega) dX6_lengthen_16 ?_
  refine v_iconst K dX6_lengthen_17 ?_
  refine v_iadd K dX6_lengthen_18 ?_
  refine v_top (b := ((iZ (μ 16 j + 1)).toInt)) (iZ_of _).symm ?_
  have hx1 := iZ_rng (iZ (μ 16 k))
  have hx2 := iZ_rng (iZ (μ 16 j + 1))
  refine v_mmax (by omega) (by omega) K (List.mem_cons_of_mem _ (List.mem_append_left _ (List.mem_append_left _ (List.mem_of_getElem? (i := 1) rfl)))) (List.mem_cons_of_mem _ (List.mem_append_left _ (List.mem_append_left _ (List.mem_of_getElem? (i := 2) rfl)))) (List.mem_cons_of_mem _ (List.mem_append_left _ (List.mem_append_left _ (List.mem_of_getElem? (i := 3) rfl)))) (List.mem_cons_of_mem _ (List.mem_append_left _ (List.mem_append_left _ (List.mem_of_getElem? (i := 4) rfl)))) (Nat.le_of_ble_eq_true rfl) (Nat.le_of_ble_eq_true rfl) ⟨(Nat.le_of_ble_eq_true rfl), (Nat.le_of_ble_eq_true rfl)⟩ dX6_lengthen_19 ?_
  refine v_iast (c := 16) k K isI_16 rfl (by omega) dX6_lengthen_22 ?_
  exact hret _ ⟨_, rfl⟩ _ _ _ _ _ (Nat.le_of_ble_eq_true rfl) (Nat.le_of_ble_eq_true rfl) dX6_lengthen_23
theorem c_X6_lengthen (l : Launch) (hl : l.stackTraces = false) (D : va_G) (cy : Nat → ClassId) (ad : Nat → Nat) (μ : Mem) (k : Nat) (j : Nat) (hk : k < 1000) (hj : j < 1000) : cV l yX6_lengthen wsX6_lengthen ({ frames := 1, cells := 0, slots := 0, locals := 15 } : Room) D cy ad μ [.ref (ad 4), .int (iZ (k : Int)), .int (iZ (j : Int))] (fun (ν : Mem) => ∃ x, ν = upM μ 16 k x) :=
  m_void (av := (fun ad => [.ref (ad 4), .int (iZ (k : Int)), .int (iZ (j : Int))])) hl (by decide) rfl rfl (Nat.le_of_ble_eq_true rfl) (fun X K hret => b_X6_lengthen k j hk hj K hret)
theorem dX6_after_0 : decode cX6_after 0 = .ok (.iload_n 2, 1) := by decide +kernel
theorem dX6_after_1 : decode cX6_after 1 = .ok (.iconst 5, 1) := by decide +kernel
theorem dX6_after_2 : decode cX6_after 2 = .ok (.idiv, 1) := by decide +kernel
theorem dX6_after_3 : decode cX6_after 3 = .ok (.istore_n 3, 1) := by decide +kernel
theorem dX6_after_4 : decode cX6_after 4 = .ok (.iload_n 1, 1) := by decide +kernel
theorem dX6_after_5 : decode cX6_after 5 = .ok (.aload_n 0, 1) := by decide +kernel
theorem dX6_after_6 : decode cX6_after 6 = .ok (.getfield 21, 3) := by decide +kernel
theorem dX6_after_9 : decode cX6_after 9 = .ok (.iload_n 2, 1) := by decide +kernel
theorem dX6_after_10 : decode cX6_after 10 = .ok (.iaload, 1) := by decide +kernel
theorem dX6_after_11 : decode cX6_after 11 = .ok (.aload_n 0, 1) := by decide +kernel
theorem dX6_after_12 : decode cX6_after 12 = .ok (.iload_n 1, 1) := by decide +kernel
theorem dX6_after_13 : decode cX6_after 13 = .ok (.iload_n 3, 1) := by decide +kernel
theorem dX6_after_14 : decode cX6_after 14 = .ok (.invokevirtual 85, 3) := by decide +kernel
set_option maxRecDepth 20000 in
theorem ggX6_after_X6_placeIn : GoodIn wsX6_after wsX6_placeIn := goodIn_ca (goodIn_r _ [7, 2, 8, 9, 10, 11, 12, 13, 14, 15, 16, 17, 18, 19, 20, 21] (by decide +kernel) (by decide +kernel)) (goodIn_sub (fun _ h => List.mem_cons_of_mem _ (List.mem_append_right _ h)) (by decide +kernel))
set_option maxRecDepth 20000 in
theorem gX6_after_X6_placeIn : GoodIn wsX6_after (wsV RX6 85 RX6 yX6_placeIn wsX6_placeIn) := goodIn_app (goodIn_of _ (by decide +kernel)) ggX6_after_X6_placeIn
theorem dX6_after_17 : decode cX6_after 17 = .ok (.isub, 1) := by decide +kernel
theorem dX6_after_18 : decode cX6_after 18 = .ok (.aload_n 0, 1) := by decide +kernel
theorem dX6_after_19 : decode cX6_after 19 = .ok (.getfield 15, 3) := by decide +kernel
theorem dX6_after_22 : decode cX6_after 22 = .ok (.iload_n 3, 1) := by decide +kernel
theorem dX6_after_23 : decode cX6_after 23 = .ok (.iaload, 1) := by decide +kernel
theorem dX6_after_24 : decode cX6_after 24 = .ok (.imul, 1) := by decide +kernel
theorem dX6_after_25 : decode cX6_after 25 = .ok (.iadd, 1) := by decide +kernel
theorem dX6_after_26 : decode cX6_after 26 = .ok (.ireturn, 1) := by decide +kernel
set_option maxHeartbeats 4000000 in
set_option maxRecDepth 100000 in
theorem b_X6_after {X : VC} {μ : Mem} (k : Nat) (j : Nat) (hk : k < 1000) (hj : j < 30) (hs : 1 ≤ μ 10 (j / 5) ∧ μ 10 (j / 5) ≤ 1000) (hz : 1 ≤ μ 9 (j / 5) ∧ μ 9 (j / 5) ≤ 10) (K : vK X cX6_after 4 RX6 wsX6_after ({ frames := 1, cells := 0, slots := 0, locals := 22 } : Room)) (hret : ∀ (z : Int) (ν : Mem), (fun (z : Int) (ν : Mem) => z = (k : Int) + (μ 12 j - ((k : Int) / μ 10 (j / 5) % μ 9 (j / 5))) * μ 10 (j / 5) ∧ ν = μ) z ν → ∀ n pc k1 k2 lv, k1 ≤ 0 → k2 ≤ 0 → decode cX6_after pc = .ok (.ireturn, 1) → vW X n pc k1 k2 lv [.int (iZ z)] ν) : vW X 4 0 0 0 [(0, .ref (vAd X 4)), (1, .int (iZ (k : Int))), (2, .int (iZ (j : Int)))] [] μ := by
  refine v_iload_n 2 K dX6_after_0 rfl ?_
  refine v_iconst K dX6_after_1 ?_
  refine v_idiv (by omega) (by omega) K dX6_after_2 ?_
  refine v_top (b := (((j / 5) : Nat) : Int)) (congrArg iZ (by omega)) ?_
  refine v_istore_n [(3, .int (iZ (((j / 5) : Nat) : Int))), (0, .ref (vAd X 4)), (1, .int (iZ (k : Int))), (2, .int (iZ (j : Int)))] K dX6_after_3 (by decide) rfl ?_
  refine v_iload_n 2 K dX6_after_4 rfl ?_
  refine v_aload_n 1 K dX6_after_5 rfl ?_
  refine v_get (c := 4) (k := 3) (C := RX6) (T := TX6) (N := 13) (v := .ref (vAd X 12)) K isO_Sv rfl (fun _ h => (List.mem_cons_of_mem _ (List.mem_append_left _ (List.mem_append_right _ h)))) (by decide) (List.mem_cons_of_mem _ (List.mem_append_left _ (List.mem_append_left _ (List.mem_of_getElem? (i := 0) rfl)))) rfl dX6_after_6 rfl ?_
  refine v_iload_n 3 K dX6_after_9 rfl ?_
  refine v_iald (c := 12) j K isI_12 rfl (by omega) dX6_after_10 ?_
  refine v_aload_n 1 K dX6_after_11 rfl ?_
  refine v_iload_n 2 K dX6_after_12 rfl ?_
  refine v_iload_n 0 K dX6_after_13 rfl ?_
  refine v_callVir (c := 4) (As := [.int (iZ (k : Int)), .int (iZ (((j / 5) : Nat) : Int))]) (rest := [.int (iZ (μ 12 j)), .int (iZ (k : Int))]) K isO_Sv rfl 2 (c_X6_placeIn X.1.2.1 K.2.2.2.2.2.2 _ _ _ μ (k : Int) (j / 5) (by omega) (by omega) hs hz) gX6_after_X6_placeIn rfl rfl rfl (by decide +kernel) ⟨(Nat.le_of_ble_eq_true rfl), (Nat.le_of_ble_eq_true rfl)⟩ rfl rfl (Nat.le_of_ble_eq_true rfl) dX6_after_14 ⟨(Nat.le_of_ble_eq_true rfl), (Nat.le_of_ble_eq_true rfl)⟩ ?_
  refine v_isub K dX6_after_17 ?_
  refine v_aload_n 1 K dX6_after_18 rfl ?_
  refine v_get (c := 4) (k := 1) (C := RX6) (T := TX6) (N := 13) (v := .ref (vAd X 10)) K isO_Sv rfl (fun _ h => (List.mem_cons_of_mem _ (List.mem_append_left _ (List.mem_append_right _ h)))) (by decide) (List.mem_cons_of_mem _ (List.mem_append_left _ (List.mem_append_left _ (List.mem_of_getElem? (i := 1) rfl)))) rfl dX6_after_19 rfl ?_
  refine v_iload_n 0 K dX6_after_22 rfl ?_
  refine v_iald (c := 10) (j / 5) K isI_10 rfl (by omega) dX6_after_23 ?_
  refine v_imul K dX6_after_24 ?_
  refine v_iadd K dX6_after_25 ?_
  exact hret _ _ ⟨rfl, rfl⟩ _ _ _ _ _ (Nat.le_of_ble_eq_true rfl) (Nat.le_of_ble_eq_true rfl) dX6_after_26
theorem c_X6_after (l : Launch) (hl : l.stackTraces = false) (D : va_G) (cy : Nat → ClassId) (ad : Nat → Nat) (μ : Mem) (k : Nat) (j : Nat) (hk : k < 1000) (hj : j < 30) (hs : 1 ≤ μ 10 (j / 5) ∧ μ 10 (j / 5) ≤ 1000) (hz : 1 ≤ μ 9 (j / 5) ∧ μ 9 (j / 5) ≤ 10) : cI l yX6_after wsX6_after ({ frames := 1, cells := 0, slots := 0, locals := 22 } : Room) D cy ad μ [.ref (ad 4), .int (iZ (k : Int)), .int (iZ (j : Int))] (fun (z : Int) (ν : Mem) => z = (k : Int) + (μ 12 j - ((k : Int) / μ 10 (j / 5) % μ 9 (j / 5))) * μ 10 (j / 5) ∧ ν = μ) :=
  m_int (av := (fun ad => [.ref (ad 4), .int (iZ (k : Int)), .int (iZ (j : Int))])) hl (by decide) rfl rfl (Nat.le_of_ble_eq_true rfl) (fun _ _ _ => rfl) (fun X K hret => b_X6_after k j hk hj hs hz K hret)
theorem dX6_meetsRing_0 : decode cX6_meetsRing 0 = .ok (.iconst 0, 1) := by decide +kernel
theorem dX6_meetsRing_1 : decode cX6_meetsRing 1 = .ok (.istore_n 2, 1) := by decide +kernel
theorem dX6_meetsRing_2 : decode cX6_meetsRing 2 = .ok (.aload_n 0, 1) := by decide +kernel
theorem dX6_meetsRing_3 : decode cX6_meetsRing 3 = .ok (.iload_n 1, 1) := by decide +kernel
theorem dX6_meetsRing_4 : decode cX6_meetsRing 4 = .ok (.iload_n 2, 1) := by decide +kernel
theorem dX6_meetsRing_5 : decode cX6_meetsRing 5 = .ok (.invokevirtual 125, 3) := by decide +kernel
set_option maxRecDepth 20000 in
theorem ggX6_meetsRing_X6_enter : GoodIn wsX6_meetsRing wsX6_enter := goodIn_ca (goodIn_r _ [10, 2, 4, 3, 11, 34, 35, 36, 37, 38, 39, 40, 41, 42, 43, 44, 45, 46] (by decide +kernel) (by decide +kernel)) (goodIn_sub (fun _ h => List.mem_cons_of_mem _ (List.mem_append_right _ h)) (by decide +kernel))
set_option maxRecDepth 20000 in
theorem gX6_meetsRing_X6_enter : GoodIn wsX6_meetsRing (wsV RX6 125 RX6 yX6_enter wsX6_enter) := goodIn_app (goodIn_of _ (by decide +kernel)) ggX6_meetsRing_X6_enter
theorem dX6_meetsRing_8 : decode cX6_meetsRing 8 = .ok (.iconst 0, 1) := by decide +kernel
theorem dX6_meetsRing_9 : decode cX6_meetsRing 9 = .ok (.istore_n 3, 1) := by decide +kernel
theorem dX6_meetsRing_10 : decode cX6_meetsRing 10 = .ok (.iload_n 3, 1) := by decide +kernel
theorem dX6_meetsRing_11 : decode cX6_meetsRing 11 = .ok (.ldc 128, 2) := by decide +kernel
theorem dX6_meetsRing_13 : decode cX6_meetsRing 13 = .ok (.if_icmp .ge 166, 3) := by decide +kernel
theorem dX6_meetsRing_16 : decode cX6_meetsRing 16 = .ok (.iload_n 2, 1) := by decide +kernel
theorem dX6_meetsRing_17 : decode cX6_meetsRing 17 = .ok (.ifCond .lt 162, 3) := by decide +kernel
theorem dX6_meetsRing_179 : decode cX6_meetsRing 179 = .ok (.iconst 0, 1) := by decide +kernel
theorem dX6_meetsRing_180 : decode cX6_meetsRing 180 = .ok (.ireturn, 1) := by decide +kernel
theorem dX6_meetsRing_20 : decode cX6_meetsRing 20 = .ok (.aload_n 0, 1) := by decide +kernel
theorem dX6_meetsRing_21 : decode cX6_meetsRing 21 = .ok (.getfield 39, 3) := by decide +kernel
theorem dX6_meetsRing_24 : decode cX6_meetsRing 24 = .ok (.iload_n 2, 1) := by decide +kernel
theorem dX6_meetsRing_25 : decode cX6_meetsRing 25 = .ok (.iaload, 1) := by decide +kernel
theorem dX6_meetsRing_26 : decode cX6_meetsRing 26 = .ok (.istore 4, 2) := by decide +kernel
theorem dX6_meetsRing_28 : decode cX6_meetsRing 28 = .ok (.aload_n 0, 1) := by decide +kernel
theorem dX6_meetsRing_29 : decode cX6_meetsRing 29 = .ok (.getfield 36, 3) := by decide +kernel
theorem dX6_meetsRing_32 : decode cX6_meetsRing 32 = .ok (.iload 4, 2) := by decide +kernel
theorem dX6_meetsRing_34 : decode cX6_meetsRing 34 = .ok (.iaload, 1) := by decide +kernel
theorem dX6_meetsRing_35 : decode cX6_meetsRing 35 = .ok (.bipush 30, 2) := by decide +kernel
theorem dX6_meetsRing_37 : decode cX6_meetsRing 37 = .ok (.if_icmp .lt 33, 3) := by decide +kernel
theorem dX6_meetsRing_70 : decode cX6_meetsRing 70 = .ok (.aload_n 0, 1) := by decide +kernel
theorem dX6_meetsRing_71 : decode cX6_meetsRing 71 = .ok (.getfield 36, 3) := by decide +kernel
theorem dX6_meetsRing_74 : decode cX6_meetsRing 74 = .ok (.iload 4, 2) := by decide +kernel
theorem dX6_meetsRing_76 : decode cX6_meetsRing 76 = .ok (.dup2, 1) := by decide +kernel
theorem dX6_meetsRing_77 : decode cX6_meetsRing 77 = .ok (.iaload, 1) := by decide +kernel
theorem dX6_meetsRing_78 : decode cX6_meetsRing 78 = .ok (.dup_x2, 1) := by decide +kernel
theorem dX6_meetsRing_79 : decode cX6_meetsRing 79 = .ok (.iconst 1, 1) := by decide +kernel
theorem dX6_meetsRing_80 : decode cX6_meetsRing 80 = .ok (.iadd, 1) := by decide +kernel
theorem dX6_meetsRing_81 : decode cX6_meetsRing 81 = .ok (.iastore, 1) := by decide +kernel
theorem dX6_meetsRing_82 : decode cX6_meetsRing 82 = .ok (.istore 5, 2) := by decide +kernel
theorem dX6_meetsRing_84 : decode cX6_meetsRing 84 = .ok (.aload_n 0, 1) := by decide +kernel
theorem dX6_meetsRing_85 : decode cX6_meetsRing 85 = .ok (.getfield 27, 3) := by decide +kernel
theorem dX6_meetsRing_88 : decode cX6_meetsRing 88 = .ok (.iload 4, 2) := by decide +kernel
theorem dX6_meetsRing_90 : decode cX6_meetsRing 90 = .ok (.iaload, 1) := by decide +kernel
theorem dX6_meetsRing_91 : decode cX6_meetsRing 91 = .ok (.iload 5, 2) := by decide +kernel
theorem dX6_meetsRing_93 : decode cX6_meetsRing 93 = .ok (.invokestatic 132, 3) := by decide +kernel
set_option maxRecDepth 20000 in
theorem ggX6_meetsRing_X7_hasBit : GoodIn wsX6_meetsRing wsX7_hasBit := goodIn_r _ [22] (by decide +kernel) (by decide +kernel)
set_option maxRecDepth 20000 in
theorem gX6_meetsRing_X7_hasBit_n132 : GoodIn wsX6_meetsRing (wsX7_hasBit) := ggX6_meetsRing_X7_hasBit
theorem dX6_meetsRing_96 : decode cX6_meetsRing 96 = .ok (.ifCond .eq 14, 3) := by decide +kernel
theorem dX6_meetsRing_110 : decode cX6_meetsRing 110 = .ok (.iload 4, 2) := by decide +kernel
theorem dX6_meetsRing_112 : decode cX6_meetsRing 112 = .ok (.istore 6, 2) := by decide +kernel
theorem dX6_meetsRing_114 : decode cX6_meetsRing 114 = .ok (.iload 6, 2) := by decide +kernel
theorem dX6_meetsRing_116 : decode cX6_meetsRing 116 = .ok (.iload 4, 2) := by decide +kernel
theorem dX6_meetsRing_118 : decode cX6_meetsRing 118 = .ok (.if_icmp .eq 16, 3) := by decide +kernel
theorem dX6_meetsRing_134 : decode cX6_meetsRing 134 = .ok (.aload_n 0, 1) := by decide +kernel
theorem dX6_meetsRing_135 : decode cX6_meetsRing 135 = .ok (.getfield 30, 3) := by decide +kernel
theorem dX6_meetsRing_138 : decode cX6_meetsRing 138 = .ok (.iload 6, 2) := by decide +kernel
theorem dX6_meetsRing_140 : decode cX6_meetsRing 140 = .ok (.iaload, 1) := by decide +kernel
theorem dX6_meetsRing_141 : decode cX6_meetsRing 141 = .ok (.iconst 2, 1) := by decide +kernel
theorem dX6_meetsRing_142 : decode cX6_meetsRing 142 = .ok (.if_icmp .ne 14, 3) := by decide +kernel
theorem dX6_meetsRing_156 : decode cX6_meetsRing 156 = .ok (.iload 6, 2) := by decide +kernel
theorem dX6_meetsRing_158 : decode cX6_meetsRing 158 = .ok (.iload 4, 2) := by decide +kernel
theorem dX6_meetsRing_160 : decode cX6_meetsRing 160 = .ok (.if_icmp .eq 13, 3) := by decide +kernel
theorem dX6_meetsRing_173 : decode cX6_meetsRing 173 = .ok (.iinc 3 1, 3) := by decide +kernel
theorem dX6_meetsRing_176 : decode cX6_meetsRing 176 = .ok (.goto (-166), 3) := by decide +kernel
theorem dX6_meetsRing_99 : decode cX6_meetsRing 99 = .ok (.aload_n 0, 1) := by decide +kernel
theorem dX6_meetsRing_100 : decode cX6_meetsRing 100 = .ok (.iload 4, 2) := by decide +kernel
theorem dX6_meetsRing_102 : decode cX6_meetsRing 102 = .ok (.iload 5, 2) := by decide +kernel
theorem dX6_meetsRing_104 : decode cX6_meetsRing 104 = .ok (.invokevirtual 136, 3) := by decide +kernel
set_option maxRecDepth 20000 in
theorem ggX6_meetsRing_X6_after : GoodIn wsX6_meetsRing wsX6_after := goodIn_ca (goodIn_r _ [26, 27, 28, 29, 30, 31, 9, 32, 33, 34, 35, 36, 37, 38, 39, 40, 41, 42, 43, 44, 45, 46] (by decide +kernel) (by decide +kernel)) (goodIn_sub (fun _ h => List.mem_cons_of_mem _ (List.mem_append_right _ h)) (by decide +kernel))
set_option maxRecDepth 20000 in
theorem gX6_meetsRing_X6_after : GoodIn wsX6_meetsRing (wsV RX6 136 RX6 yX6_after wsX6_after) := goodIn_app (goodIn_of _ (by decide +kernel)) ggX6_meetsRing_X6_after
theorem dX6_meetsRing_107 : decode cX6_meetsRing 107 = .ok (.goto 5, 3) := by decide +kernel
theorem dX6_meetsRing_121 : decode cX6_meetsRing 121 = .ok (.aload_n 0, 1) := by decide +kernel
theorem dX6_meetsRing_122 : decode cX6_meetsRing 122 = .ok (.getfield 30, 3) := by decide +kernel
theorem dX6_meetsRing_125 : decode cX6_meetsRing 125 = .ok (.iload 6, 2) := by decide +kernel
theorem dX6_meetsRing_127 : decode cX6_meetsRing 127 = .ok (.iaload, 1) := by decide +kernel
theorem dX6_meetsRing_128 : decode cX6_meetsRing 128 = .ok (.iconst 1, 1) := by decide +kernel
theorem dX6_meetsRing_129 : decode cX6_meetsRing 129 = .ok (.if_icmp .ne 5, 3) := by decide +kernel
theorem dX6_meetsRing_163 : decode cX6_meetsRing 163 = .ok (.iinc 2 1, 3) := by decide +kernel
theorem dX6_meetsRing_166 : decode cX6_meetsRing 166 = .ok (.aload_n 0, 1) := by decide +kernel
theorem dX6_meetsRing_167 : decode cX6_meetsRing 167 = .ok (.iload 6, 2) := by decide +kernel
theorem dX6_meetsRing_169 : decode cX6_meetsRing 169 = .ok (.iload_n 2, 1) := by decide +kernel
theorem dX6_meetsRing_170 : decode cX6_meetsRing 170 = .ok (.invokevirtual 125, 3) := by decide +kernel
theorem dX6_meetsRing_145 : decode cX6_meetsRing 145 = .ok (.aload_n 0, 1) := by decide +kernel
theorem dX6_meetsRing_146 : decode cX6_meetsRing 146 = .ok (.iload 4, 2) := by decide +kernel
theorem dX6_meetsRing_148 : decode cX6_meetsRing 148 = .ok (.iload 6, 2) := by decide +kernel
theorem dX6_meetsRing_150 : decode cX6_meetsRing 150 = .ok (.invokevirtual 129, 3) := by decide +kernel
set_option maxRecDepth 20000 in
theorem ggX6_meetsRing_X6_lengthen : GoodIn wsX6_meetsRing wsX6_lengthen := goodIn_ca (goodIn_r _ [15, 11, 16, 17, 18, 19, 34, 35, 36, 37, 38, 39, 40, 41, 42, 43, 44, 45, 46] (by decide +kernel) (by decide +kernel)) (goodIn_sub (fun _ h => List.mem_cons_of_mem _ (List.mem_append_right _ h)) (by decide +kernel))
set_option maxRecDepth 20000 in
theorem gX6_meetsRing_X6_lengthen : GoodIn wsX6_meetsRing (wsV RX6 129 RX6 yX6_lengthen wsX6_lengthen) := goodIn_app (goodIn_of _ (by decide +kernel)) ggX6_meetsRing_X6_lengthen
theorem dX6_meetsRing_153 : decode cX6_meetsRing 153 = .ok (.goto 20, 3) := by decide +kernel
theorem dX6_meetsRing_40 : decode cX6_meetsRing 40 = .ok (.aload_n 0, 1) := by decide +kernel
theorem dX6_meetsRing_41 : decode cX6_meetsRing 41 = .ok (.getfield 30, 3) := by decide +kernel
theorem dX6_meetsRing_44 : decode cX6_meetsRing 44 = .ok (.iload 4, 2) := by decide +kernel
theorem dX6_meetsRing_46 : decode cX6_meetsRing 46 = .ok (.iconst 2, 1) := by decide +kernel
theorem dX6_meetsRing_47 : decode cX6_meetsRing 47 = .ok (.iastore, 1) := by decide +kernel
theorem dX6_meetsRing_48 : decode cX6_meetsRing 48 = .ok (.iinc 2 (-1), 3) := by decide +kernel
theorem dX6_meetsRing_51 : decode cX6_meetsRing 51 = .ok (.iload_n 2, 1) := by decide +kernel
theorem dX6_meetsRing_52 : decode cX6_meetsRing 52 = .ok (.ifCond .lt 121, 3) := by decide +kernel
theorem dX6_meetsRing_55 : decode cX6_meetsRing 55 = .ok (.aload_n 0, 1) := by decide +kernel
theorem dX6_meetsRing_56 : decode cX6_meetsRing 56 = .ok (.aload_n 0, 1) := by decide +kernel
theorem dX6_meetsRing_57 : decode cX6_meetsRing 57 = .ok (.getfield 39, 3) := by decide +kernel
theorem dX6_meetsRing_60 : decode cX6_meetsRing 60 = .ok (.iload_n 2, 1) := by decide +kernel
theorem dX6_meetsRing_61 : decode cX6_meetsRing 61 = .ok (.iaload, 1) := by decide +kernel
theorem dX6_meetsRing_62 : decode cX6_meetsRing 62 = .ok (.iload 4, 2) := by decide +kernel
theorem dX6_meetsRing_64 : decode cX6_meetsRing 64 = .ok (.invokevirtual 129, 3) := by decide +kernel
theorem dX6_meetsRing_67 : decode cX6_meetsRing 67 = .ok (.goto 106, 3) := by decide +kernel
set_option maxHeartbeats 4000000 in
set_option maxRecDepth 100000 in
theorem b_X6_meetsRing {X : VC} {μ : Mem} (n : Nat) (rk : Nat → Int) (k0 : Nat) (hG : GR μ n rk) (hM : MK μ n) (hk0 : k0 < n) (h0 : μ 15 k0 = 0) (K : vK X cX6_meetsRing 7 RX6 wsX6_meetsRing ({ frames := 2, cells := 0, slots := 0, locals := 45 } : Room)) (hret : ∀ (z : Int) (ν : Mem), (fun (z : Int) (ν : Mem) => z = 0 ∧ AD μ ν ∧ MK ν n) z ν → ∀ n pc k1 k2 lv, k1 ≤ 0 → k2 ≤ 0 → decode cX6_meetsRing pc = .ok (.ireturn, 1) → vW X n pc k1 k2 lv [.int (iZ z)] ν) : vW X 7 0 0 0 [(0, .ref (vAd X 4)), (1, .int (iZ (k0 : Int)))] [] μ := by
  have hn := hG.1
  refine v_iconst K dX6_meetsRing_0 ?_
  refine v_istore_n [(2, .int (iZ 0)), (0, .ref (vAd X 4)), (1, .int (iZ (k0 : Int)))] K dX6_meetsRing_1 (by decide) rfl ?_
  refine v_aload_n 1 K dX6_meetsRing_2 rfl ?_
  refine v_iload_n 2 K dX6_meetsRing_3 rfl ?_
  refine v_iload_n 0 K dX6_meetsRing_4 rfl ?_
  refine v_eq (lv1 := [(2, .int (iZ 0)), (0, .ref (vAd X 4)), (1, .int (iZ (k0 : Int)))]) (st1 := [.int (iZ ((0 : Nat) : Int)), .int (iZ (k0 : Int)), .ref (vAd X 4)]) rfl (v_sI (by omega) (v_s0 (v_s0 rfl))) ?_
  refine v_callVv (c := 4) (As := [.int (iZ (k0 : Int)), .int (iZ ((0 : Nat) : Int))]) (rest := []) K isO_Sv rfl 2 (c_X6_enter X.1.2.1 K.2.2.2.2.2.2 _ _ _ μ k0 0 (by omega) (by omega)) gX6_meetsRing_X6_enter rfl rfl rfl (by decide +kernel) ⟨(Nat.le_of_ble_eq_true rfl), (Nat.le_of_ble_eq_true rfl)⟩ rfl rfl (Nat.le_of_ble_eq_true rfl) dX6_meetsRing_5 ⟨(Nat.le_of_ble_eq_true rfl), (Nat.le_of_ble_eq_true rfl)⟩ (fun ν0 q5 => ?_)
  refine v_iconst K dX6_meetsRing_8 ?_
  refine v_istore_n [(3, .int (iZ 0)), (2, .int (iZ 0)), (0, .ref (vAd X 4)), (1, .int (iZ (k0 : Int)))] K dX6_meetsRing_9 (by decide) rfl ?_
  have L10 : ∀ (fuel : Nat) (s : Nat) (t : Int) (ν : Mem) (hm : 40000 - s < fuel) (hD : DI μ ν n rk s t), vW X 7 10 0 0 [(0, .ref (vAd X 4)), (1, .int (iZ (k0 : Int))), (2, .int (iZ t)), (3, .int (iZ (s : Int)))] [] ν := by
    intro fuel
    induction fuel with
    | zero => intro s t ν hm; exact absurd hm (Nat.not_lt_zero _)
    | succ fuel ih10 =>
      intro s t ν hm hD
      refine v_iload_n 3 K dX6_meetsRing_10 rfl ?_
      have hs32 := DI_s hD
      have ht1 := hD.2.1
      refine v_ldc (v := 1000000) (n := 1000000) K (List.mem_cons_of_mem _ (List.mem_append_left _ (List.mem_append_left _ (List.mem_append_left _ (List.mem_of_getElem? (i := 0) rfl))))) dX6_meetsRing_11 (by decide) ?_
      refine v_icmp_ge 179 K dX6_meetsRing_13 (by decide) (by omega) (by decide) (fun c13 => (by exfalso; omega)) (fun c13 => ?_)
      have htn0 : t < 1000 := by rcases (show t < 0 ∨ 0 ≤ t by omega) with q | q; omega; have := (DI_top hD q).1; omega
      refine v_iload_n 2 K dX6_meetsRing_16 rfl ?_
      refine v_if_lt 179 K dX6_meetsRing_17 (by decide) (by omega) (fun c17 => ?_) (fun c17 => ?_)
      · refine v_iconst K dX6_meetsRing_179 ?_
        exact hret _ _ ⟨rfl, DI_end hD (by omega)⟩ _ _ _ _ _ (Nat.le_of_ble_eq_true rfl) (Nat.le_of_ble_eq_true rfl) dX6_meetsRing_180
      · obtain ⟨htn, -, k, hk, hk18, hk15, hk170, hk1730⟩ := DI_top hD (by omega)
        refine v_aload_n 0 K dX6_meetsRing_20 rfl ?_
        refine v_get (c := 4) (k := 9) (C := RX6) (T := TX6) (N := 13) (v := .ref (vAd X 18)) K isO_Sv rfl (fun _ h => (List.mem_cons_of_mem _ (List.mem_append_left _ (List.mem_append_right _ h)))) (by decide) (List.mem_cons_of_mem _ (List.mem_append_left _ (List.mem_append_left _ (List.mem_append_left _ (List.mem_of_getElem? (i := 1) rfl))))) rfl dX6_meetsRing_21 rfl ?_
        refine v_iload_n 2 K dX6_meetsRing_24 rfl ?_
        refine v_iald (c := 18) ((t).toNat) K isI_18 (by omega) (by omega) dX6_meetsRing_25 ?_
        refine v_top (b := (k : Int)) (by rw [hk18]) ?_
        refine v_istore [(4, .int (iZ (k : Int))), (0, .ref (vAd X 4)), (1, .int (iZ (k0 : Int))), (2, .int (iZ t)), (3, .int (iZ (s : Int)))] K dX6_meetsRing_26 (by decide) rfl ?_
        refine v_aload_n 1 K dX6_meetsRing_28 rfl ?_
        refine v_get (c := 4) (k := 8) (C := RX6) (T := TX6) (N := 13) (v := .ref (vAd X 17)) K isO_Sv rfl (fun _ h => (List.mem_cons_of_mem _ (List.mem_append_left _ (List.mem_append_right _ h)))) (by decide) (List.mem_cons_of_mem _ (List.mem_append_left _ (List.mem_append_left _ (List.mem_append_left _ (List.mem_of_getElem? (i := 2) rfl))))) rfl dX6_meetsRing_29 rfl ?_
        refine v_iload 0 K dX6_meetsRing_32 rfl ?_
        refine v_iald (c := 17) k K isI_17 rfl (by omega) dX6_meetsRing_34 ?_
        refine v_bipush K dX6_meetsRing_35 (by decide) ?_
        refine v_icmp_lt 70 K dX6_meetsRing_37 (by decide) (by omega) (by decide) (fun c37 => ?_) (fun c37 => ?_)
        · obtain ⟨j, hj⟩ := nat_of hk170
          refine v_aload_n 1 K dX6_meetsRing_70 rfl ?_
          refine v_get (c := 4) (k := 8) (C := RX6) (T := TX6) (N := 13) (v := .ref (vAd X 17)) K isO_Sv rfl (fun _ h => (List.mem_cons_of_mem _ (List.mem_append_left _ (List.mem_append_right _ h)))) (by decide) (List.mem_cons_of_mem _ (List.mem_append_left _ (List.mem_append_left _ (List.mem_append_left _ (List.mem_of_getElem? (i := 2) rfl))))) rfl dX6_meetsRing_71 rfl ?_
          refine v_iload 0 K dX6_meetsRing_74 rfl ?_
          refine v_dup2 rfl rfl K dX6_meetsRing_76 ?_
          refine v_iald (c := 17) k K isI_17 rfl (by omega) dX6_meetsRing_77 ?_
          refine v_top (b := (j : Int)) (by rw [hj]) ?_
          refine v_dup_x2 rfl rfl rfl K dX6_meetsRing_78 ?_
          refine v_iconst K dX6_meetsRing_79 ?_
          refine v_iadd K dX6_meetsRing_80 ?_
          refine v_iast (c := 17) k K isI_17 rfl (by omega) dX6_meetsRing_81 ?_
          obtain ⟨ν3, eν3⟩ : ∃ ν3 : Mem, ν3 = (upM ν 17 k ((j : Int) + 1)) := ⟨_, rfl⟩
          rw [← eν3]
          have hDt : DI μ ν3 n rk (s + 1) t := DI_try hD hk hk15 (by omega) (by rw [hj]; exact eν3)
          have h14 : ν3 14 k = μ 14 k := by rw [eν3, upM_off (by omega), hD.1 14 (by omega)]
          have hmr := hG.2.2.1 k hk
          have hj01 := tz_01 (μ 14 k) j
          have h315 : ν3 15 k = 1 := by rw [eν3, upM_off (by omega)]; exact hk15
          have h318 : ν3 18 t.toNat = (k : Int) := by rw [eν3, upM_off (by omega)]; exact hk18
          refine v_istore [(5, .int (iZ (j : Int))), (4, .int (iZ (k : Int))), (0, .ref (vAd X 4)), (1, .int (iZ (k0 : Int))), (2, .int (iZ t)), (3, .int (iZ (s : Int)))] K dX6_meetsRing_82 (by decide) rfl ?_
          refine v_aload_n 2 K dX6_meetsRing_84 rfl ?_
          refine v_get (c := 4) (k := 5) (C := RX6) (T := TX6) (N := 13) (v := .ref (vAd X 14)) K isO_Sv rfl (fun _ h => (List.mem_cons_of_mem _ (List.mem_append_left _ (List.mem_append_right _ h)))) (by decide) (List.mem_cons_of_mem _ (List.mem_append_left _ (List.mem_append_left _ (List.mem_append_left _ (List.mem_of_getElem? (i := 4) rfl))))) rfl dX6_meetsRing_85 rfl ?_
          refine v_iload 1 K dX6_meetsRing_88 rfl ?_
          refine v_iald (c := 14) k K isI_14 rfl (by omega) dX6_meetsRing_90 ?_
          refine v_top (b := (μ 14 k)) (by rw [h14]) ?_
          refine v_iload 0 K dX6_meetsRing_91 rfl ?_
          refine v_callNir (host := RX7) (As := [.int (iZ (μ 14 k)), .int (iZ (j : Int))]) (rest := []) K 2 (c_X7_hasBit X.1.2.1 K.2.2.2.2.2.2 _ _ _ ν3 (μ 14 k) j (by omega) (by omega)) gX6_meetsRing_X7_hasBit_n132 rfl rfl rfl (by decide +kernel) (List.mem_cons_of_mem _ (List.mem_append_left _ (List.mem_append_left _ (List.mem_append_left _ (List.mem_of_getElem? (i := 20) rfl))))) (List.mem_cons_of_mem _ (List.mem_append_left _ (List.mem_append_left _ (List.mem_append_left _ (List.mem_of_getElem? (i := 19) rfl))))) (by decide +kernel) ⟨(Nat.le_of_ble_eq_true rfl), (Nat.le_of_ble_eq_true rfl)⟩ rfl rfl (Nat.le_of_ble_eq_true rfl) dX6_meetsRing_93 ⟨(Nat.le_of_ble_eq_true rfl), (Nat.le_of_ble_eq_true rfl)⟩ ?_
          refine v_if_eq 110 K dX6_meetsRing_96 (by decide) (by omega) (fun c96 => ?_) (fun c96 => ?_)
          · refine v_iload 1 K dX6_meetsRing_110 rfl ?_
            refine v_istore [(6, .int (iZ (k : Int))), (5, .int (iZ (j : Int))), (4, .int (iZ (k : Int))), (0, .ref (vAd X 4)), (1, .int (iZ (k0 : Int))), (2, .int (iZ t)), (3, .int (iZ (s : Int)))] K dX6_meetsRing_112 (by decide) rfl ?_
            refine v_iload 0 K dX6_meetsRing_114 rfl ?_
            refine v_iload 2 K dX6_meetsRing_116 rfl ?_
            refine v_icmp_eq 134 K dX6_meetsRing_118 (by decide) (by omega) (by omega) (fun c118 => ?_) (fun c118 => (by exfalso; omega))
            refine v_aload_n 3 K dX6_meetsRing_134 rfl ?_
            refine v_get (c := 4) (k := 6) (C := RX6) (T := TX6) (N := 13) (v := .ref (vAd X 15)) K isO_Sv rfl (fun _ h => (List.mem_cons_of_mem _ (List.mem_append_left _ (List.mem_append_right _ h)))) (by decide) (List.mem_cons_of_mem _ (List.mem_append_left _ (List.mem_append_left _ (List.mem_append_left _ (List.mem_of_getElem? (i := 3) rfl))))) rfl dX6_meetsRing_135 rfl ?_
            refine v_iload 0 K dX6_meetsRing_138 rfl ?_
            refine v_iald (c := 15) k K isI_15 rfl (by omega) dX6_meetsRing_140 ?_
            refine v_iconst K dX6_meetsRing_141 ?_
            refine v_icmp_ne 156 K dX6_meetsRing_142 (by decide) (by omega) (by decide) (fun c142 => ?_) (fun c142 => (by exfalso; omega))
            refine v_iload 0 K dX6_meetsRing_156 rfl ?_
            refine v_iload 2 K dX6_meetsRing_158 rfl ?_
            refine v_icmp_eq 173 K dX6_meetsRing_160 (by decide) (by omega) (by omega) (fun c160 => ?_) (fun c160 => (by exfalso; omega))
            have hD9 := hDt
            refine v_iinc 6 [(3, .int (iZ ((s : Int) + 1))), (6, .int (iZ (k : Int))), (5, .int (iZ (j : Int))), (4, .int (iZ (k : Int))), (0, .ref (vAd X 4)), (1, .int (iZ (k0 : Int))), (2, .int (iZ t))] K dX6_meetsRing_173 rfl (by decide) rfl ?_
            refine v_goto 10 K dX6_meetsRing_176 (by decide) ?_
            refine v_sub [4, 5, 6, 0] rfl ?_
            refine v_eq (lv1 := [(0, .ref (vAd X 4)), (1, .int (iZ (k0 : Int))), (2, .int (iZ t)), (3, .int (iZ (((s + 1) : Nat) : Int)))]) (st1 := []) (v_c0 (v_c0 (v_c0 (v_cI (by first | rfl | omega) rfl)))) rfl ?_
            exact ih10 (s + 1) t ν3 (by omega) hD9
          · obtain ⟨ha1, ha2, ha3, k1, hk1, ha4, ha5⟩ := hG.2.2.2 k j hk (by omega) (by omega)
            have h39 : ν3 9 = μ 9 := by rw [eν3, upM_off (by omega)]; exact hD.1 9 (by omega)
            have h310 : ν3 10 = μ 10 := by rw [eν3, upM_off (by omega)]; exact hD.1 10 (by omega)
            have h312 : ν3 12 = μ 12 := by rw [eν3, upM_off (by omega)]; exact hD.1 12 (by omega)
            have hne : k1 ≠ k := fun z => by subst z; omega
            have hbe := DI_below hDt (by omega) h318 hk1 ha5
            refine v_aload_n 2 K dX6_meetsRing_99 rfl ?_
            refine v_iload 1 K dX6_meetsRing_100 rfl ?_
            refine v_iload 0 K dX6_meetsRing_102 rfl ?_
            refine v_callVir (c := 4) (As := [.int (iZ (k : Int)), .int (iZ (j : Int))]) (rest := []) K isO_Sv rfl 2 (c_X6_after X.1.2.1 K.2.2.2.2.2.2 _ _ _ ν3 k j (by omega) (by omega) (by rw [h310]; exact ha1) (by rw [h39]; exact ha2)) gX6_meetsRing_X6_after rfl rfl rfl (by decide +kernel) ⟨(Nat.le_of_ble_eq_true rfl), (Nat.le_of_ble_eq_true rfl)⟩ rfl rfl (Nat.le_of_ble_eq_true rfl) dX6_meetsRing_104 ⟨(Nat.le_of_ble_eq_true rfl), (Nat.le_of_ble_eq_true rfl)⟩ ?_
            refine v_top (b := (k1 : Int)) (congrArg iZ (by rw [h39, h310, h312]; exact ha4)) ?_
            refine v_goto 112 K dX6_meetsRing_107 (by decide) ?_
            refine v_istore [(6, .int (iZ (k1 : Int))), (5, .int (iZ (j : Int))), (4, .int (iZ (k : Int))), (0, .ref (vAd X 4)), (1, .int (iZ (k0 : Int))), (2, .int (iZ t)), (3, .int (iZ (s : Int)))] K dX6_meetsRing_112 (by decide) rfl ?_
            refine v_iload 0 K dX6_meetsRing_114 rfl ?_
            refine v_iload 2 K dX6_meetsRing_116 rfl ?_
            refine v_icmp_eq 134 K dX6_meetsRing_118 (by decide) (by omega) (by omega) (fun c118 => (by exfalso; omega)) (fun c118 => ?_)
            refine v_aload_n 3 K dX6_meetsRing_121 rfl ?_
            refine v_get (c := 4) (k := 6) (C := RX6) (T := TX6) (N := 13) (v := .ref (vAd X 15)) K isO_Sv rfl (fun _ h => (List.mem_cons_of_mem _ (List.mem_append_left _ (List.mem_append_right _ h)))) (by decide) (List.mem_cons_of_mem _ (List.mem_append_left _ (List.mem_append_left _ (List.mem_append_left _ (List.mem_of_getElem? (i := 3) rfl))))) rfl dX6_meetsRing_122 rfl ?_
            refine v_iload 0 K dX6_meetsRing_125 rfl ?_
            refine v_iald (c := 15) k1 K isI_15 rfl (by omega) dX6_meetsRing_127 ?_
            refine v_iconst K dX6_meetsRing_128 ?_
            refine v_icmp_ne 134 K dX6_meetsRing_129 (by decide) (by omega) (by decide) (fun c129 => ?_) (fun c129 => (by exfalso; omega))
            refine v_aload_n 3 K dX6_meetsRing_134 rfl ?_
            refine v_get (c := 4) (k := 6) (C := RX6) (T := TX6) (N := 13) (v := .ref (vAd X 15)) K isO_Sv rfl (fun _ h => (List.mem_cons_of_mem _ (List.mem_append_left _ (List.mem_append_right _ h)))) (by decide) (List.mem_cons_of_mem _ (List.mem_append_left _ (List.mem_append_left _ (List.mem_append_left _ (List.mem_of_getElem? (i := 3) rfl))))) rfl dX6_meetsRing_135 rfl ?_
            refine v_iload 0 K dX6_meetsRing_138 rfl ?_
            refine v_iald (c := 15) k1 K isI_15 rfl (by omega) dX6_meetsRing_140 ?_
            refine v_iconst K dX6_meetsRing_141 ?_
            refine v_icmp_ne 156 K dX6_meetsRing_142 (by decide) (by omega) (by decide) (fun c142 => ?_) (fun c142 => ?_)
            · refine v_iload 0 K dX6_meetsRing_156 rfl ?_
              refine v_iload 2 K dX6_meetsRing_158 rfl ?_
              refine v_icmp_eq 173 K dX6_meetsRing_160 (by decide) (by omega) (by omega) (fun c160 => (by exfalso; omega)) (fun c160 => ?_)
              have hroom := DI_room hDt hk1 (by omega)
              refine v_iinc 5 [(2, .int (iZ (t + 1))), (6, .int (iZ (k1 : Int))), (5, .int (iZ (j : Int))), (4, .int (iZ (k : Int))), (0, .ref (vAd X 4)), (1, .int (iZ (k0 : Int))), (3, .int (iZ (s : Int)))] K dX6_meetsRing_163 rfl (by decide) rfl ?_
              refine v_aload_n 4 K dX6_meetsRing_166 rfl ?_
              refine v_iload 1 K dX6_meetsRing_167 rfl ?_
              refine v_iload_n 0 K dX6_meetsRing_169 rfl ?_
              refine v_eq (lv1 := [(2, .int (iZ (t + 1))), (6, .int (iZ (k1 : Int))), (5, .int (iZ (j : Int))), (4, .int (iZ (k : Int))), (0, .ref (vAd X 4)), (1, .int (iZ (k0 : Int))), (3, .int (iZ (s : Int)))]) (st1 := [.int (iZ ((((t + 1)).toNat : Nat) : Int)), .int (iZ (k1 : Int)), .ref (vAd X 4)]) rfl (v_sI (by omega) (v_s0 (v_s0 rfl))) ?_
              refine v_callVv (c := 4) (As := [.int (iZ (k1 : Int)), .int (iZ ((((t + 1)).toNat : Nat) : Int))]) (rest := []) K isO_Sv rfl 2 (c_X6_enter X.1.2.1 K.2.2.2.2.2.2 _ _ _ ν3 k1 (((t + 1)).toNat) (by omega) (by omega)) gX6_meetsRing_X6_enter rfl rfl rfl (by decide +kernel) ⟨(Nat.le_of_ble_eq_true rfl), (Nat.le_of_ble_eq_true rfl)⟩ rfl rfl (Nat.le_of_ble_eq_true rfl) dX6_meetsRing_170 ⟨(Nat.le_of_ble_eq_true rfl), (Nat.le_of_ble_eq_true rfl)⟩ (fun ν9 q170 => ?_)
              have hD9 := DI_enter hDt (by omega) h318 hk1 ha5 (by omega) q170
              refine v_iinc 6 [(3, .int (iZ ((s : Int) + 1))), (2, .int (iZ (t + 1))), (6, .int (iZ (k1 : Int))), (5, .int (iZ (j : Int))), (4, .int (iZ (k : Int))), (0, .ref (vAd X 4)), (1, .int (iZ (k0 : Int)))] K dX6_meetsRing_173 rfl (by decide) rfl ?_
              refine v_goto 10 K dX6_meetsRing_176 (by decide) ?_
              refine v_sub [5, 6, 1, 0] rfl ?_
              refine v_eq (lv1 := [(0, .ref (vAd X 4)), (1, .int (iZ (k0 : Int))), (2, .int (iZ (t + 1))), (3, .int (iZ (((s + 1) : Nat) : Int)))]) (st1 := []) (v_c0 (v_c0 (v_c0 (v_cI (by first | rfl | omega) rfl)))) rfl ?_
              exact ih10 (s + 1) (t + 1) ν9 (by omega) hD9
            · refine v_aload_n 3 K dX6_meetsRing_145 rfl ?_
              refine v_iload 2 K dX6_meetsRing_146 rfl ?_
              refine v_iload 0 K dX6_meetsRing_148 rfl ?_
              refine v_callVv (c := 4) (As := [.int (iZ (k : Int)), .int (iZ (k1 : Int))]) (rest := []) K isO_Sv rfl 2 (c_X6_lengthen X.1.2.1 K.2.2.2.2.2.2 _ _ _ ν3 k k1 (by omega) (by omega)) gX6_meetsRing_X6_lengthen rfl rfl rfl (by decide +kernel) ⟨(Nat.le_of_ble_eq_true rfl), (Nat.le_of_ble_eq_true rfl)⟩ rfl rfl (Nat.le_of_ble_eq_true rfl) dX6_meetsRing_150 ⟨(Nat.le_of_ble_eq_true rfl), (Nat.le_of_ble_eq_true rfl)⟩ (fun ν9 q150 => ?_)
              refine v_goto 173 K dX6_meetsRing_153 (by decide) ?_
              obtain ⟨x9, e9⟩ := q150
              have hD9 : DI μ ν9 n rk (s + 1) t := by rw [e9]; exact DI_len hDt
              refine v_iinc 6 [(3, .int (iZ ((s : Int) + 1))), (6, .int (iZ (k1 : Int))), (5, .int (iZ (j : Int))), (4, .int (iZ (k : Int))), (0, .ref (vAd X 4)), (1, .int (iZ (k0 : Int))), (2, .int (iZ t))] K dX6_meetsRing_173 rfl (by decide) rfl ?_
              refine v_goto 10 K dX6_meetsRing_176 (by decide) ?_
              refine v_sub [4, 5, 6, 0] rfl ?_
              refine v_eq (lv1 := [(0, .ref (vAd X 4)), (1, .int (iZ (k0 : Int))), (2, .int (iZ t)), (3, .int (iZ (((s + 1) : Nat) : Int)))]) (st1 := []) (v_c0 (v_c0 (v_c0 (v_cI (by first | rfl | omega) rfl)))) rfl ?_
              exact ih10 (s + 1) t ν9 (by omega) hD9
        · refine v_aload_n 1 K dX6_meetsRing_40 rfl ?_
          refine v_get (c := 4) (k := 6) (C := RX6) (T := TX6) (N := 13) (v := .ref (vAd X 15)) K isO_Sv rfl (fun _ h => (List.mem_cons_of_mem _ (List.mem_append_left _ (List.mem_append_right _ h)))) (by decide) (List.mem_cons_of_mem _ (List.mem_append_left _ (List.mem_append_left _ (List.mem_append_left _ (List.mem_of_getElem? (i := 3) rfl))))) rfl dX6_meetsRing_41 rfl ?_
          refine v_iload 0 K dX6_meetsRing_44 rfl ?_
          refine v_iconst K dX6_meetsRing_46 ?_
          refine v_iast (c := 15) k K isI_15 rfl (by omega) dX6_meetsRing_47 ?_
          obtain ⟨ν2, eν2⟩ : ∃ ν2 : Mem, ν2 = (upM ν 15 k 2) := ⟨_, rfl⟩
          rw [← eν2]
          have hDp := DI_pop hD (by omega) hk hk18 hk15 (by omega) eν2
          refine v_iinc 3 [(2, .int (iZ (t + (-1)))), (4, .int (iZ (k : Int))), (0, .ref (vAd X 4)), (1, .int (iZ (k0 : Int))), (3, .int (iZ (s : Int)))] K dX6_meetsRing_48 rfl (by decide) rfl ?_
          refine v_iload_n 0 K dX6_meetsRing_51 rfl ?_
          refine v_if_lt 173 K dX6_meetsRing_52 (by decide) (by omega) (fun c52 => ?_) (fun c52 => ?_)
          · have hD9 := hDp
            refine v_iinc 4 [(3, .int (iZ ((s : Int) + 1))), (2, .int (iZ (t + (-1)))), (4, .int (iZ (k : Int))), (0, .ref (vAd X 4)), (1, .int (iZ (k0 : Int)))] K dX6_meetsRing_173 rfl (by decide) rfl ?_
            refine v_goto 10 K dX6_meetsRing_176 (by decide) ?_
            refine v_sub [3, 4, 1, 0] rfl ?_
            refine v_eq (lv1 := [(0, .ref (vAd X 4)), (1, .int (iZ (k0 : Int))), (2, .int (iZ (t + (-1)))), (3, .int (iZ (((s + 1) : Nat) : Int)))]) (st1 := []) (v_c0 (v_c0 (v_c0 (v_cI (by first | rfl | omega) rfl)))) rfl ?_
            exact ih10 (s + 1) (t + (-1)) ν2 (by omega) hD9
          · obtain ⟨-, -, k2, hk2, hk218, -, -, -⟩ := DI_top hDp (by omega)
            refine v_aload_n 2 K dX6_meetsRing_55 rfl ?_
            refine v_aload_n 2 K dX6_meetsRing_56 rfl ?_
            refine v_get (c := 4) (k := 9) (C := RX6) (T := TX6) (N := 13) (v := .ref (vAd X 18)) K isO_Sv rfl (fun _ h => (List.mem_cons_of_mem _ (List.mem_append_left _ (List.mem_append_right _ h)))) (by decide) (List.mem_cons_of_mem _ (List.mem_append_left _ (List.mem_append_left _ (List.mem_append_left _ (List.mem_of_getElem? (i := 1) rfl))))) rfl dX6_meetsRing_57 rfl ?_
            refine v_iload_n 0 K dX6_meetsRing_60 rfl ?_
            refine v_iald (c := 18) (((t + (-1))).toNat) K isI_18 (by omega) (by omega) dX6_meetsRing_61 ?_
            refine v_top (b := (k2 : Int)) (by rw [hk218]) ?_
            refine v_iload 1 K dX6_meetsRing_62 rfl ?_
            refine v_callVv (c := 4) (As := [.int (iZ (k2 : Int)), .int (iZ (k : Int))]) (rest := []) K isO_Sv rfl 2 (c_X6_lengthen X.1.2.1 K.2.2.2.2.2.2 _ _ _ ν2 k2 k (by omega) (by omega)) gX6_meetsRing_X6_lengthen rfl rfl rfl (by decide +kernel) ⟨(Nat.le_of_ble_eq_true rfl), (Nat.le_of_ble_eq_true rfl)⟩ rfl rfl (Nat.le_of_ble_eq_true rfl) dX6_meetsRing_64 ⟨(Nat.le_of_ble_eq_true rfl), (Nat.le_of_ble_eq_true rfl)⟩ (fun ν9 q64 => ?_)
            refine v_goto 173 K dX6_meetsRing_67 (by decide) ?_
            obtain ⟨x9, e9⟩ := q64
            have hD9 : DI μ ν9 n rk (s + 1) (t + -1) := by rw [e9]; exact DI_len hDp
            refine v_iinc 4 [(3, .int (iZ ((s : Int) + 1))), (2, .int (iZ (t + (-1)))), (4, .int (iZ (k : Int))), (0, .ref (vAd X 4)), (1, .int (iZ (k0 : Int)))] K dX6_meetsRing_173 rfl (by decide) rfl ?_
            refine v_goto 10 K dX6_meetsRing_176 (by decide) ?_
            refine v_sub [3, 4, 1, 0] rfl ?_
            refine v_eq (lv1 := [(0, .ref (vAd X 4)), (1, .int (iZ (k0 : Int))), (2, .int (iZ (t + (-1)))), (3, .int (iZ (((s + 1) : Nat) : Int)))]) (st1 := []) (v_c0 (v_c0 (v_c0 (v_cI (by first | rfl | omega) rfl)))) rfl ?_
            exact ih10 (s + 1) (t + (-1)) ν9 (by omega) hD9
  refine v_sub [2, 3, 1, 0] rfl ?_
  refine v_eq (lv1 := [(0, .ref (vAd X 4)), (1, .int (iZ (k0 : Int))), (2, .int (iZ 0)), (3, .int (iZ ((0 : Nat) : Int)))]) (st1 := []) (v_c0 (v_c0 (v_c0 (v_cI (by first | rfl | omega) rfl)))) rfl ?_
  exact L10 (40000 - 0 + 1) 0 0 ν0 (by omega) (DI_start hM hk0 h0 q5)
theorem c_X6_meetsRing (l : Launch) (hl : l.stackTraces = false) (D : va_G) (cy : Nat → ClassId) (ad : Nat → Nat) (μ : Mem) (n : Nat) (rk : Nat → Int) (k0 : Nat) (hG : GR μ n rk) (hM : MK μ n) (hk0 : k0 < n) (h0 : μ 15 k0 = 0) : cI l yX6_meetsRing wsX6_meetsRing ({ frames := 2, cells := 0, slots := 0, locals := 45 } : Room) D cy ad μ [.ref (ad 4), .int (iZ (k0 : Int))] (fun (z : Int) (ν : Mem) => z = 0 ∧ AD μ ν ∧ MK ν n) :=
  m_int (av := (fun ad => [.ref (ad 4), .int (iZ (k0 : Int))])) hl (by decide) rfl rfl (Nat.le_of_ble_eq_true rfl) (fun z ν q => (nar_z (by have := q.1; omega)).1) (fun X K hret => b_X6_meetsRing n rk k0 hG hM hk0 h0 K hret)
