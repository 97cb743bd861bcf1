set_option maxHeartbeats 4000000 in
set_option maxRecDepth 100000 in
theorem b_X7_getDelayT {X : VC} {μ : Mem} (r : Nat) (x : Int) (hW : WF μ) (hr : r < rc μ) (hx : 18 < x ∧ x ≤ 1000) (K : vK X cX7_getDelay 3 RX7 wsX7_getDelay ({ frames := 7, cells := 1, slots := 6, locals := 105 } : Room)) (T : vT X μ "java/lang/IllegalArgumentException") : vW X 3 0 0 0 [(0, .ref (vAd X 0)), (1, .int (iZ (r : Int))), (2, .int (iZ x))] [] μ := by
  have hrc := hW.rc8
  have htl := hW.tl (r := r) (by omega)
  refine v_aload_n 0 K dX7_getDelay_0 rfl ?_
  refine v_iload_n 1 K dX7_getDelay_1 rfl ?_
  refine v_callVvr (c := 0) (As := [.int (iZ (r : Int))]) (rest := []) K isO_SJ rfl 1 (c_X7_checkResource X.1.2.1 K.2.2.2.2.2.2 _ _ _ μ (r : Int) (by omega) (by omega)) gX7_getDelay_X7_checkResource rfl rfl rfl (by decide +kernel) ⟨(Nat.le_of_ble_eq_true rfl), (Nat.le_of_ble_eq_true rfl)⟩ rfl rfl (Nat.le_of_ble_eq_true rfl) dX7_getDelay_2 ⟨(Nat.le_of_ble_eq_true rfl), (Nat.le_of_ble_eq_true rfl)⟩ ?_
  refine v_aload_n 0 K dX7_getDelay_5 rfl ?_
  refine v_iload_n 2 K dX7_getDelay_6 rfl ?_
  refine v_iconst K dX7_getDelay_7 ?_
  refine v_bipush K dX7_getDelay_8 (by decide) ?_
  exact v_callVTv (c := 0) (As := [.int (iZ x), .int (iZ 0), .int (iZ 18)]) (rest := []) K T isO_SJ rfl 3 (c_X7_checkRangeT X.1.2.1 K.2.2.2.2.2.2 _ _ _ μ x 0 18 (by omega) (by omega) (by omega) (by omega)) gX7_getDelay_X7_checkRange rfl rfl rfl (by decide +kernel) ⟨(Nat.le_of_ble_eq_true rfl), (Nat.le_of_ble_eq_true rfl)⟩ rfl rfl (Nat.le_of_ble_eq_true rfl) dX7_getDelay_10 ⟨(Nat.le_of_ble_eq_true rfl), (Nat.le_of_ble_eq_true rfl)⟩ (Nat.le_of_ble_eq_true rfl) (Nat.le_of_ble_eq_true rfl)
theorem c_X7_getDelayT (l : Launch) (hl : l.stackTraces = false) (D : va_G) (cy : Nat → ClassId) (ad : Nat → Nat) (μ : Mem) (r : Nat) (x : Int) (hW : WF μ) (hr : r < rc μ) (hx : 18 < x ∧ x ≤ 1000) : cTi l yX7_getDelay wsX7_getDelay ({ frames := 7, cells := 1, slots := 6, locals := 105 } : Room) D cy ad μ [.ref (ad 0), .int (iZ (r : Int)), .int (iZ x)] "java/lang/IllegalArgumentException" :=
  m_thri (av := (fun ad => [.ref (ad 0), .int (iZ (r : Int)), .int (iZ x)])) hl (by decide) rfl rfl (Nat.le_of_ble_eq_true rfl) (fun X K T => b_X7_getDelayT r x hW hr hx K T)
theorem dX7_getCost_0 : decode cX7_getCost 0 = .ok (.aload_n 0, 1) := by decide +kernel
theorem dX7_getCost_1 : decode cX7_getCost 1 = .ok (.iload_n 1, 1) := by decide +kernel
theorem dX7_getCost_2 : decode cX7_getCost 2 = .ok (.invokevirtual 88, 3) := by decide +kernel
set_option maxRecDepth 20000 in
theorem ggX7_getCost_X7_checkPlayer : GoodIn wsX7_getCost wsX7_checkPlayer := goodIn_ca (goodIn_r _ [7, 8, 9, 1, 10, 43, 44, 45, 46, 47, 48, 49, 50, 51, 52, 53] (by decide +kernel) (by decide +kernel)) (goodIn_sub (fun _ h => List.mem_cons_of_mem _ (List.mem_append_left _ (List.mem_append_right _ h))) (by decide +kernel))
set_option maxRecDepth 20000 in
theorem gX7_getCost_X7_checkPlayer : GoodIn wsX7_getCost (wsV RX7 88 RX7 yX7_checkPlayer wsX7_checkPlayer) := goodIn_app (goodIn_of _ (by decide +kernel)) ggX7_getCost_X7_checkPlayer
theorem dX7_getCost_5 : decode cX7_getCost 5 = .ok (.aload_n 0, 1) := by decide +kernel
theorem dX7_getCost_6 : decode cX7_getCost 6 = .ok (.getfield 10, 3) := by decide +kernel
theorem dX7_getCost_9 : decode cX7_getCost 9 = .ok (.aload_n 0, 1) := by decide +kernel
theorem dX7_getCost_10 : decode cX7_getCost 10 = .ok (.getfield 19, 3) := by decide +kernel
theorem dX7_getCost_13 : decode cX7_getCost 13 = .ok (.iload_n 1, 1) := by decide +kernel
theorem dX7_getCost_14 : decode cX7_getCost 14 = .ok (.invokevirtual 181, 3) := by decide +kernel
set_option maxRecDepth 20000 in
theorem ggX7_getCost_X0_ownCost : GoodIn wsX7_getCost wsX0_ownCost := goodIn_ca (goodIn_r _ [15, 16, 17, 18, 19, 14, 20, 21, 22, 23, 24, 25, 26, 27, 28, 29, 30, 31, 32, 33, 34, 35, 6, 36, 37, 38, 39, 40, 41, 42, 54, 55, 56, 50, 51, 52, 53, 57, 58, 59, 60, 61, 62, 63, 64, 65, 66, 67, 68, 69] (by decide +kernel) (by decide +kernel)) (goodIn_sub (fun _ h => List.mem_cons_of_mem _ (List.mem_append_right _ h)) (by decide +kernel))
set_option maxRecDepth 20000 in
theorem gX7_getCost_X0_ownCost : GoodIn wsX7_getCost (wsV RX7 181 RX0 yX0_ownCost wsX0_ownCost) := goodIn_app (goodIn_of _ (by decide +kernel)) ggX7_getCost_X0_ownCost
theorem dX7_getCost_17 : decode cX7_getCost 17 = .ok (.ireturn, 1) := by decide +kernel
set_option maxHeartbeats 4000000 in
set_option maxRecDepth 100000 in
theorem b_X7_getCost {X : VC} {μ : Mem} (p : Nat) (hW : WF μ) (hB : PB μ 0) (hp : p < pcn μ) (K : vK X cX7_getCost 2 RX7 wsX7_getCost ({ frames := 3, cells := 0, slots := 0, locals := 72 } : Room)) (hret : ∀ (z : Int) (ν : Mem), (fun (z : Int) (ν : Mem) => z = cst μ 0 p (μ (5 + 2 * 0) p) ∧ ν = μ) z ν → ∀ n pc k1 k2 lv, k1 ≤ 0 → k2 ≤ 0 → decode cX7_getCost pc = .ok (.ireturn, 1) → vW X n pc k1 k2 lv [.int (iZ z)] ν) : vW X 2 0 0 0 [(0, .ref (vAd X 0)), (1, .int (iZ (p : Int)))] [] μ := by
  have hpc := hW.pc6
  have hpl := hW.pl (p := p) (by omega)
  refine v_aload_n 0 K dX7_getCost_0 rfl ?_
  refine v_iload_n 1 K dX7_getCost_1 rfl ?_
  refine v_callVvr (c := 0) (As := [.int (iZ (p : Int))]) (rest := []) K isO_SJ rfl 1 (c_X7_checkPlayer X.1.2.1 K.2.2.2.2.2.2 _ _ _ μ (p : Int) (by omega) (by omega)) gX7_getCost_X7_checkPlayer rfl rfl rfl (by decide +kernel) ⟨(Nat.le_of_ble_eq_true rfl), (Nat.le_of_ble_eq_true rfl)⟩ rfl rfl (Nat.le_of_ble_eq_true rfl) dX7_getCost_2 ⟨(Nat.le_of_ble_eq_true rfl), (Nat.le_of_ble_eq_true rfl)⟩ ?_
  refine v_aload_n 0 K dX7_getCost_5 rfl ?_
  refine v_get (c := 0) (k := 0) (C := RX7) (T := TX7) (N := 7) (v := .ref (vAd X 1)) K isO_SJ rfl (fun _ h => (List.mem_cons_of_mem _ (List.mem_append_left _ (List.mem_append_left _ (List.mem_append_left _ (List.mem_append_left _ (List.mem_append_left _ (List.mem_append_left _ (List.mem_append_right _ h))))))))) (by decide) (List.mem_cons_of_mem _ (List.mem_append_left _ (List.mem_append_left _ (List.mem_append_left _ (List.mem_append_left _ (List.mem_append_left _ (List.mem_append_left _ (List.mem_append_left _ (List.mem_append_left _ (List.mem_of_getElem? (i := 0) rfl)))))))))) rfl dX7_getCost_6 rfl ?_
  refine v_aload_n 0 K dX7_getCost_9 rfl ?_
  refine v_get (c := 0) (k := 1) (C := RX7) (T := TX7) (N := 7) (v := .ref (vAd X (2 + 0))) K isO_SJ rfl (fun _ h => (List.mem_cons_of_mem _ (List.mem_append_left _ (List.mem_append_left _ (List.mem_append_left _ (List.mem_append_left _ (List.mem_append_left _ (List.mem_append_left _ (List.mem_append_right _ h))))))))) (by decide) (List.mem_cons_of_mem _ (List.mem_append_left _ (List.mem_append_left _ (List.mem_append_left _ (List.mem_append_left _ (List.mem_append_left _ (List.mem_append_left _ (List.mem_append_left _ (List.mem_append_left _ (List.mem_of_getElem? (i := 1) rfl)))))))))) rfl dX7_getCost_10 rfl ?_
  refine v_iload_n 1 K dX7_getCost_13 rfl ?_
  refine v_callVir (c := 1) (As := [.ref (vAd X (2 + 0)), .int (iZ (p : Int))]) (rest := []) K isO_Bd rfl 2 (c_X0_ownCost X.1.2.1 K.2.2.2.2.2.2 _ _ _ μ 0 p (by omega) (by omega) hW hB) gX7_getCost_X0_ownCost rfl rfl rfl (by decide +kernel) ⟨(Nat.le_of_ble_eq_true rfl), (Nat.le_of_ble_eq_true rfl)⟩ rfl rfl (Nat.le_of_ble_eq_true rfl) dX7_getCost_14 ⟨(Nat.le_of_ble_eq_true rfl), (Nat.le_of_ble_eq_true rfl)⟩ ?_
  exact hret _ _ ⟨rfl, rfl⟩ _ _ _ _ _ (Nat.le_of_ble_eq_true rfl) (Nat.le_of_ble_eq_true rfl) dX7_getCost_17
theorem c_X7_getCost (l : Launch) (hl : l.stackTraces = false) (D : va_G) (cy : Nat → ClassId) (ad : Nat → Nat) (μ : Mem) (p : Nat) (hW : WF μ) (hB : PB μ 0) (hp : p < pcn μ) : cI l yX7_getCost wsX7_getCost ({ frames := 3, cells := 0, slots := 0, locals := 72 } : Room) D cy ad μ [.ref (ad 0), .int (iZ (p : Int))] (fun (z : Int) (ν : Mem) => z = cst μ 0 p (μ (5 + 2 * 0) p) ∧ ν = μ) :=
  m_int (av := (fun ad => [.ref (ad 0), .int (iZ (p : Int))])) hl (by decide) rfl rfl (Nat.le_of_ble_eq_true rfl) (fun _ _ _ => rfl) (fun X K hret => b_X7_getCost p hW hB hp K hret)
set_option maxHeartbeats 4000000 in
set_option maxRecDepth 100000 in
theorem b_X7_getCostT {X : VC} {μ : Mem} (n : Int) (hpc : 0 ≤ μ 1 3 ∧ μ 1 3 ≤ 6) (h : μ 1 3 ≤ n ∧ n ≤ 1000) (K : vK X cX7_getCost 2 RX7 wsX7_getCost ({ frames := 7, cells := 1, slots := 6, locals := 103 } : Room)) (T : vT X μ "java/lang/IndexOutOfBoundsException") : vW X 2 0 0 0 [(0, .ref (vAd X 0)), (1, .int (iZ n))] [] μ := by
  refine v_aload_n 0 K dX7_getCost_0 rfl ?_
  refine v_iload_n 1 K dX7_getCost_1 rfl ?_
  exact v_callVTv (c := 0) (As := [.int (iZ n)]) (rest := []) K T isO_SJ rfl 1 (c_X7_checkPlayerT X.1.2.1 K.2.2.2.2.2.2 _ _ _ μ n hpc h) gX7_getCost_X7_checkPlayer rfl rfl rfl (by decide +kernel) ⟨(Nat.le_of_ble_eq_true rfl), (Nat.le_of_ble_eq_true rfl)⟩ rfl rfl (Nat.le_of_ble_eq_true rfl) dX7_getCost_2 ⟨(Nat.le_of_ble_eq_true rfl), (Nat.le_of_ble_eq_true rfl)⟩ (Nat.le_of_ble_eq_true rfl) (Nat.le_of_ble_eq_true rfl)
theorem c_X7_getCostT (l : Launch) (hl : l.stackTraces = false) (D : va_G) (cy : Nat → ClassId) (ad : Nat → Nat) (μ : Mem) (n : Int) (hpc : 0 ≤ μ 1 3 ∧ μ 1 3 ≤ 6) (h : μ 1 3 ≤ n ∧ n ≤ 1000) : cTi l yX7_getCost wsX7_getCost ({ frames := 7, cells := 1, slots := 6, locals := 103 } : Room) D cy ad μ [.ref (ad 0), .int (iZ n)] "java/lang/IndexOutOfBoundsException" :=
  m_thri (av := (fun ad => [.ref (ad 0), .int (iZ n)])) hl (by decide) rfl rfl (Nat.le_of_ble_eq_true rfl) (fun X K T => b_X7_getCostT n hpc h K T)
theorem dX7_costOf_0 : decode cX7_costOf 0 = .ok (.aload_n 0, 1) := by decide +kernel
theorem dX7_costOf_1 : decode cX7_costOf 1 = .ok (.iload_n 1, 1) := by decide +kernel
theorem dX7_costOf_2 : decode cX7_costOf 2 = .ok (.iload_n 2, 1) := by decide +kernel
theorem dX7_costOf_3 : decode cX7_costOf 3 = .ok (.invokevirtual 148, 3) := by decide +kernel
set_option maxRecDepth 20000 in
theorem ggX7_costOf_X7_checkWay : GoodIn wsX7_costOf wsX7_checkWay := goodIn_ca (goodIn_r _ [7, 8, 9, 1, 10, 11, 12, 13, 14, 6, 15, 16, 45, 46, 47, 48, 49, 50, 51, 52, 53, 54, 55, 56, 57, 58, 59, 60, 61] (by decide +kernel) (by decide +kernel)) (goodIn_sub (fun _ h => List.mem_cons_of_mem _ (List.mem_append_left _ (List.mem_append_right _ h))) (by decide +kernel))
set_option maxRecDepth 20000 in
theorem gX7_costOf_X7_checkWay : GoodIn wsX7_costOf (wsV RX7 148 RX7 yX7_checkWay wsX7_checkWay) := goodIn_app (goodIn_of _ (by decide +kernel)) ggX7_costOf_X7_checkWay
theorem dX7_costOf_6 : decode cX7_costOf 6 = .ok (.aload_n 0, 1) := by decide +kernel
theorem dX7_costOf_7 : decode cX7_costOf 7 = .ok (.getfield 10, 3) := by decide +kernel
theorem dX7_costOf_10 : decode cX7_costOf 10 = .ok (.aload_n 0, 1) := by decide +kernel
theorem dX7_costOf_11 : decode cX7_costOf 11 = .ok (.getfield 19, 3) := by decide +kernel
theorem dX7_costOf_14 : decode cX7_costOf 14 = .ok (.iload_n 1, 1) := by decide +kernel
theorem dX7_costOf_15 : decode cX7_costOf 15 = .ok (.iload_n 2, 1) := by decide +kernel
theorem dX7_costOf_16 : decode cX7_costOf 16 = .ok (.invokevirtual 185, 3) := by decide +kernel
set_option maxRecDepth 20000 in
theorem ggX7_costOf_X0_costAlone : GoodIn wsX7_costOf wsX0_costAlone := goodIn_ca (goodIn_r _ [21, 22, 23, 24, 25, 26, 27, 28, 29, 30, 31, 32, 33, 34, 35, 36, 37, 6, 38, 39, 40, 41, 42, 43, 44, 52, 53, 54, 55, 62, 63, 64, 56, 57, 58, 59, 60, 61, 65, 66, 67, 68, 69, 70, 71] (by decide +kernel) (by decide +kernel)) (goodIn_sub (fun _ h => List.mem_cons_of_mem _ (List.mem_append_right _ h)) (by decide +kernel))
set_option maxRecDepth 20000 in
theorem gX7_costOf_X0_costAlone : GoodIn wsX7_costOf (wsV RX7 185 RX0 yX0_costAlone wsX0_costAlone) := goodIn_app (goodIn_of _ (by decide +kernel)) ggX7_costOf_X0_costAlone
theorem dX7_costOf_19 : decode cX7_costOf 19 = .ok (.ireturn, 1) := by decide +kernel
set_option maxHeartbeats 4000000 in
set_option maxRecDepth 100000 in
theorem b_X7_costOf {X : VC} {μ : Mem} (p : Nat) (w : Int) (hW : WF μ) (hB : PB μ 0) (hp : p < pcn μ) (hw : 0 ≤ w ∧ w < μ (37 + p) 3) (K : vK X cX7_costOf 3 RX7 wsX7_costOf ({ frames := 2, cells := 0, slots := 0, locals := 50 } : Room)) (hret : ∀ (z : Int) (ν : Mem), (fun (z : Int) (ν : Mem) => z = cst μ 0 p w ∧ ν = μ) z ν → ∀ n pc k1 k2 lv, k1 ≤ 0 → k2 ≤ 0 → decode cX7_costOf pc = .ok (.ireturn, 1) → vW X n pc k1 k2 lv [.int (iZ z)] ν) : vW X 3 0 0 0 [(0, .ref (vAd X 0)), (1, .int (iZ (p : Int))), (2, .int (iZ w))] [] μ := by
  have hpc := hW.pc6
  have hpl := hW.pl (p := p) (by omega)
  refine v_aload_n 0 K dX7_costOf_0 rfl ?_
  refine v_iload_n 1 K dX7_costOf_1 rfl ?_
  refine v_iload_n 2 K dX7_costOf_2 rfl ?_
  refine v_callVvr (c := 0) (As := [.int (iZ (p : Int)), .int (iZ w)]) (rest := []) K isO_SJ rfl 2 (c_X7_checkWay X.1.2.1 K.2.2.2.2.2.2 _ _ _ μ p w hW hp hw) gX7_costOf_X7_checkWay rfl rfl rfl (by decide +kernel) ⟨(Nat.le_of_ble_eq_true rfl), (Nat.le_of_ble_eq_true rfl)⟩ rfl rfl (Nat.le_of_ble_eq_true rfl) dX7_costOf_3 ⟨(Nat.le_of_ble_eq_true rfl), (Nat.le_of_ble_eq_true rfl)⟩ ?_
  refine v_aload_n 0 K dX7_costOf_6 rfl ?_
  refine v_get (c := 0) (k := 0) (C := RX7) (T := TX7) (N := 7) (v := .ref (vAd X 1)) K isO_SJ rfl (fun _ h => (List.mem_cons_of_mem _ (List.mem_append_left _ (List.mem_append_left _ (List.mem_append_left _ (List.mem_append_left _ (List.mem_append_left _ (List.mem_append_left _ (List.mem_append_right _ h))))))))) (by decide) (List.mem_cons_of_mem _ (List.mem_append_left _ (List.mem_append_left _ (List.mem_append_left _ (List.mem_append_left _ (List.mem_append_left _ (List.mem_append_left _ (List.mem_append_left _ (List.mem_append_left _ (List.mem_of_getElem? (i := 0) rfl)))))))))) rfl dX7_costOf_7 rfl ?_
  refine v_aload_n 0 K dX7_costOf_10 rfl ?_
  refine v_get (c := 0) (k := 1) (C := RX7) (T := TX7) (N := 7) (v := .ref (vAd X (2 + 0))) K isO_SJ rfl (fun _ h => (List.mem_cons_of_mem _ (List.mem_append_left _ (List.mem_append_left _ (List.mem_append_left _ (List.mem_append_left _ (List.mem_append_left _ (List.mem_append_left _ (List.mem_append_right _ h))))))))) (by decide) (List.mem_cons_of_mem _ (List.mem_append_left _ (List.mem_append_left _ (List.mem_append_left _ (List.mem_append_left _ (List.mem_append_left _ (List.mem_append_left _ (List.mem_append_left _ (List.mem_append_left _ (List.mem_of_getElem? (i := 1) rfl)))))))))) rfl dX7_costOf_11 rfl ?_
  refine v_iload_n 1 K dX7_costOf_14 rfl ?_
  refine v_iload_n 2 K dX7_costOf_15 rfl ?_
  refine v_callVir (c := 1) (As := [.ref (vAd X (2 + 0)), .int (iZ (p : Int)), .int (iZ w)]) (rest := []) K isO_Bd rfl 3 (c_X0_costAlone X.1.2.1 K.2.2.2.2.2.2 _ _ _ μ 0 p w (by omega) (by omega) hW hB (by omega)) gX7_costOf_X0_costAlone rfl rfl rfl (by decide +kernel) ⟨(Nat.le_of_ble_eq_true rfl), (Nat.le_of_ble_eq_true rfl)⟩ rfl rfl (Nat.le_of_ble_eq_true rfl) dX7_costOf_16 ⟨(Nat.le_of_ble_eq_true rfl), (Nat.le_of_ble_eq_true rfl)⟩ ?_
  exact hret _ _ ⟨rfl, rfl⟩ _ _ _ _ _ (Nat.le_of_ble_eq_true rfl) (Nat.le_of_ble_eq_true rfl) dX7_costOf_19
theorem c_X7_costOf (l : Launch) (hl : l.stackTraces = false) (D : va_G) (cy : Nat → ClassId) (ad : Nat → Nat) (μ : Mem) (p : Nat) (w : Int) (hW : WF μ) (hB : PB μ 0) (hp : p < pcn μ) (hw : 0 ≤ w ∧ w < μ (37 + p) 3) : cI l yX7_costOf wsX7_costOf ({ frames := 2, cells := 0, slots := 0, locals := 50 } : Room) D cy ad μ [.ref (ad 0), .int (iZ (p : Int)), .int (iZ w)] (fun (z : Int) (ν : Mem) => z = cst μ 0 p w ∧ ν = μ) :=
  m_int (av := (fun ad => [.ref (ad 0), .int (iZ (p : Int)), .int (iZ w)])) hl (by decide) rfl rfl (Nat.le_of_ble_eq_true rfl) (fun _ _ _ => rfl) (fun X K hret => b_X7_costOf p w hW hB hp hw K hret)
theorem dX7_getTotal_0 : decode cX7_getTotal 0 = .ok (.aload_n 0, 1) := by decide +kernel
theorem dX7_getTotal_1 : decode cX7_getTotal 1 = .ok (.getfield 10, 3) := by decide +kernel
theorem dX7_getTotal_4 : decode cX7_getTotal 4 = .ok (.aload_n 0, 1) := by decide +kernel
theorem dX7_getTotal_5 : decode cX7_getTotal 5 = .ok (.getfield 19, 3) := by decide +kernel
theorem dX7_getTotal_8 : decode cX7_getTotal 8 = .ok (.invokevirtual 188, 3) := by decide +kernel
set_option maxRecDepth 20000 in
theorem ggX7_getTotal_X0_totalOf : GoodIn wsX7_getTotal wsX0_totalOf := goodIn_ca (goodIn_r _ [7, 8, 9, 10, 11, 12, 13, 14, 15, 16, 17, 18, 19, 20, 21, 22, 23, 24, 25, 26, 27, 28, 29, 30, 38, 39, 40, 41, 42, 43, 44, 45, 46, 47, 48, 49, 50, 51, 52, 53, 54, 55, 56, 57] (by decide +kernel) (by decide +kernel)) (goodIn_sub (fun _ h => List.mem_cons_of_mem _ (List.mem_append_right _ h)) (by decide +kernel))
set_option maxRecDepth 20000 in
theorem gX7_getTotal_X0_totalOf : GoodIn wsX7_getTotal (wsV RX7 188 RX0 yX0_totalOf wsX0_totalOf) := goodIn_app (goodIn_of _ (by decide +kernel)) ggX7_getTotal_X0_totalOf
theorem dX7_getTotal_11 : decode cX7_getTotal 11 = .ok (.ireturn, 1) := by decide +kernel
set_option maxHeartbeats 4000000 in
set_option maxRecDepth 100000 in
theorem b_X7_getTotal {X : VC} {μ : Mem} (hW : WF μ) (hB : PB μ 0) (K : vK X cX7_getTotal 1 RX7 wsX7_getTotal ({ frames := 2, cells := 0, slots := 0, locals := 46 } : Room)) (hret : ∀ (z : Int) (ν : Mem), (fun (z : Int) (ν : Mem) => z = tot μ 0 ∧ ν = μ) z ν → ∀ n pc k1 k2 lv, k1 ≤ 0 → k2 ≤ 0 → decode cX7_getTotal pc = .ok (.ireturn, 1) → vW X n pc k1 k2 lv [.int (iZ z)] ν) : vW X 1 0 0 0 [(0, .ref (vAd X 0))] [] μ := by
  refine v_aload_n 0 K dX7_getTotal_0 rfl ?_
  refine v_get (c := 0) (k := 0) (C := RX7) (T := TX7) (N := 7) (v := .ref (vAd X 1)) K isO_SJ rfl (fun _ h => (List.mem_cons_of_mem _ (List.mem_append_left _ (List.mem_append_left _ (List.mem_append_left _ (List.mem_append_left _ (List.mem_append_left _ (List.mem_append_right _ h)))))))) (by decide) (List.mem_cons_of_mem _ (List.mem_append_left _ (List.mem_append_left _ (List.mem_append_left _ (List.mem_append_left _ (List.mem_append_left _ (List.mem_append_left _ (List.mem_append_left _ (List.mem_of_getElem? (i := 0) rfl))))))))) rfl dX7_getTotal_1 rfl ?_
  refine v_aload_n 0 K dX7_getTotal_4 rfl ?_
  refine v_get (c := 0) (k := 1) (C := RX7) (T := TX7) (N := 7) (v := .ref (vAd X (2 + 0))) K isO_SJ rfl (fun _ h => (List.mem_cons_of_mem _ (List.mem_append_left _ (List.mem_append_left _ (List.mem_append_left _ (List.mem_append_left _ (List.mem_append_left _ (List.mem_append_right _ h)))))))) (by decide) (List.mem_cons_of_mem _ (List.mem_append_left _ (List.mem_append_left _ (List.mem_append_left _ (List.mem_append_left _ (List.mem_append_left _ (List.mem_append_left _ (List.mem_append_left _ (List.mem_of_getElem? (i := 1) rfl))))))))) rfl dX7_getTotal_5 rfl ?_
  refine v_callVir (c := 1) (As := [.ref (vAd X (2 + 0))]) (rest := []) K isO_Bd rfl 1 (c_X0_totalOf X.1.2.1 K.2.2.2.2.2.2 _ _ _ μ 0 (by omega) hW hB) gX7_getTotal_X0_totalOf rfl rfl rfl (by decide +kernel) ⟨(Nat.le_of_ble_eq_true rfl), (Nat.le_of_ble_eq_true rfl)⟩ rfl rfl (Nat.le_of_ble_eq_true rfl) dX7_getTotal_8 ⟨(Nat.le_of_ble_eq_true rfl), (Nat.le_of_ble_eq_true rfl)⟩ ?_
  exact hret _ _ ⟨rfl, rfl⟩ _ _ _ _ _ (Nat.le_of_ble_eq_true rfl) (Nat.le_of_ble_eq_true rfl) dX7_getTotal_11
theorem c_X7_getTotal (l : Launch) (hl : l.stackTraces = false) (D : va_G) (cy : Nat → ClassId) (ad : Nat → Nat) (μ : Mem) (hW : WF μ) (hB : PB μ 0) : cI l yX7_getTotal wsX7_getTotal ({ frames := 2, cells := 0, slots := 0, locals := 46 } : Room) D cy ad μ [.ref (ad 0)] (fun (z : Int) (ν : Mem) => z = tot μ 0 ∧ ν = μ) :=
  m_int (av := (fun ad => [.ref (ad 0)])) hl (by decide) rfl rfl (Nat.le_of_ble_eq_true rfl) (fun _ _ _ => rfl) (fun X K hret => b_X7_getTotal hW hB K hret)
theorem dX7_getMargin_0 : decode cX7_getMargin 0 = .ok (.aload_n 0, 1) := by decide +kernel
theorem dX7_getMargin_1 : decode cX7_getMargin 1 = .ok (.iload_n 1, 1) := by decide +kernel
theorem dX7_getMargin_2 : decode cX7_getMargin 2 = .ok (.invokevirtual 168, 3) := by decide +kernel
set_option maxRecDepth 20000 in
theorem ggX7_getMargin_X7_checkResource : GoodIn wsX7_getMargin wsX7_checkResource := goodIn_ca (goodIn_r _ [9, 10, 11, 1, 12, 27, 28, 29, 30, 31, 32, 33, 34, 35, 36, 37] (by decide +kernel) (by decide +kernel)) (goodIn_sub (fun _ h => List.mem_cons_of_mem _ (List.mem_append_right _ h)) (by decide +kernel))
set_option maxRecDepth 20000 in
theorem gX7_getMargin_X7_checkResource : GoodIn wsX7_getMargin (wsV RX7 168 RX7 yX7_checkResource wsX7_checkResource) := goodIn_app (goodIn_of _ (by decide +kernel)) ggX7_getMargin_X7_checkResource
theorem dX7_getMargin_5 : decode cX7_getMargin 5 = .ok (.aload_n 0, 1) := by decide +kernel
theorem dX7_getMargin_6 : decode cX7_getMargin 6 = .ok (.getfield 10, 3) := by decide +kernel
theorem dX7_getMargin_9 : decode cX7_getMargin 9 = .ok (.getfield 66, 3) := by decide +kernel
theorem dX7_getMargin_12 : decode cX7_getMargin 12 = .ok (.iload_n 1, 1) := by decide +kernel
theorem dX7_getMargin_13 : decode cX7_getMargin 13 = .ok (.aaload, 1) := by decide +kernel
theorem dX7_getMargin_14 : decode cX7_getMargin 14 = .ok (.aload_n 0, 1) := by decide +kernel
theorem dX7_getMargin_15 : decode cX7_getMargin 15 = .ok (.getfield 19, 3) := by decide +kernel
theorem dX7_getMargin_18 : decode cX7_getMargin 18 = .ok (.getfield 171, 3) := by decide +kernel
theorem dX7_getMargin_21 : decode cX7_getMargin 21 = .ok (.iload_n 1, 1) := by decide +kernel
theorem dX7_getMargin_22 : decode cX7_getMargin 22 = .ok (.iaload, 1) := by decide +kernel
theorem dX7_getMargin_23 : decode cX7_getMargin 23 = .ok (.invokevirtual 195, 3) := by decide +kernel
set_option maxRecDepth 20000 in
theorem ggX7_getMargin_X5_marginBy : GoodIn wsX7_getMargin wsX5_marginBy := goodIn_ca (goodIn_r _ [17, 18, 19, 20, 21, 22, 23, 24, 16, 25, 26, 41, 42, 43, 44, 45, 46, 47] (by decide +kernel) (by decide +kernel)) (goodIn_sub (fun _ h => List.mem_cons_of_mem _ (List.mem_append_left _ (List.mem_append_right _ h))) (by decide +kernel))
set_option maxRecDepth 20000 in
theorem gX7_getMargin_X5_marginBy : GoodIn wsX7_getMargin (wsV RX7 195 RX5 yX5_marginBy wsX5_marginBy) := goodIn_app (goodIn_of _ (by decide +kernel)) ggX7_getMargin_X5_marginBy
theorem dX7_getMargin_26 : decode cX7_getMargin 26 = .ok (.ireturn, 1) := by decide +kernel
set_option maxHeartbeats 4000000 in
set_option maxRecDepth 100000 in
theorem b_X7_getMargin {X : VC} {μ : Mem} (r : Nat) (hW : WF μ) (hL : PL μ 0) (hr : r < rc μ) (K : vK X cX7_getMargin 2 RX7 wsX7_getMargin ({ frames := 2, cells := 0, slots := 0, locals := 42 } : Room)) (hret : ∀ (z : Int) (ν : Mem), (fun (z : Int) (ν : Mem) => z = mrg μ r (μ (6 + 2 * 0) r) ∧ ν = μ) z ν → ∀ n pc k1 k2 lv, k1 ≤ 0 → k2 ≤ 0 → decode cX7_getMargin pc = .ok (.ireturn, 1) → vW X n pc k1 k2 lv [.int (iZ z)] ν) : vW X 2 0 0 0 [(0, .ref (vAd X 0)), (1, .int (iZ (r : Int)))] [] μ := by
  have hrc := hW.rc8
  have htl := hW.tl (r := r) (by omega)
  have hld := BL_rng hW hL.2.1 (r := r) (by omega)
  refine v_aload_n 0 K dX7_getMargin_0 rfl ?_
  refine v_iload_n 1 K dX7_getMargin_1 rfl ?_
  refine v_callVvr (c := 0) (As := [.int (iZ (r : Int))]) (rest := []) K isO_SJ rfl 1 (c_X7_checkResource X.1.2.1 K.2.2.2.2.2.2 _ _ _ μ (r : Int) (by omega) (by omega)) gX7_getMargin_X7_checkResource rfl rfl rfl (by decide +kernel) ⟨(Nat.le_of_ble_eq_true rfl), (Nat.le_of_ble_eq_true rfl)⟩ rfl rfl (Nat.le_of_ble_eq_true rfl) dX7_getMargin_2 ⟨(Nat.le_of_ble_eq_true rfl), (Nat.le_of_ble_eq_true rfl)⟩ ?_
  refine v_aload_n 0 K dX7_getMargin_5 rfl ?_
  refine v_get (c := 0) (k := 0) (C := RX7) (T := TX7) (N := 7) (v := .ref (vAd X 1)) K isO_SJ rfl (fun _ h => (List.mem_cons_of_mem _ (List.mem_append_left _ (List.mem_append_left _ (List.mem_append_left _ (List.mem_append_left _ (List.mem_append_left _ (List.mem_append_right _ h)))))))) (by decide) (List.mem_cons_of_mem _ (List.mem_append_left _ (List.mem_append_left _ (List.mem_append_left _ (List.mem_append_left _ (List.mem_append_left _ (List.mem_append_left _ (List.mem_append_left _ (List.mem_of_getElem? (i := 0) rfl))))))))) rfl dX7_getMargin_6 rfl ?_
  refine v_get (c := 1) (k := 0) (C := RX0) (T := TX0) (N := 4) (v := .ref (vAd X 19)) K isO_Bd rfl (fun _ h => (List.mem_cons_of_mem _ (List.mem_append_left _ (List.mem_append_left _ (List.mem_append_left _ (List.mem_append_left _ (List.mem_append_right _ h))))))) (by decide) (List.mem_cons_of_mem _ (List.mem_append_left _ (List.mem_append_left _ (List.mem_append_left _ (List.mem_append_left _ (List.mem_append_left _ (List.mem_append_left _ (List.mem_append_left _ (List.mem_of_getElem? (i := 1) rfl))))))))) rfl dX7_getMargin_9 rfl ?_
  refine v_iload_n 1 K dX7_getMargin_12 rfl ?_
  refine v_aald (c := 19) r K isQ_Rs rfl rfl (by omega) dX7_getMargin_13 ?_
  refine v_aload_n 0 K dX7_getMargin_14 rfl ?_
  refine v_get (c := 0) (k := 1) (C := RX7) (T := TX7) (N := 7) (v := .ref (vAd X (2 + 0))) K isO_SJ rfl (fun _ h => (List.mem_cons_of_mem _ (List.mem_append_left _ (List.mem_append_left _ (List.mem_append_left _ (List.mem_append_left _ (List.mem_append_left _ (List.mem_append_right _ h)))))))) (by decide) (List.mem_cons_of_mem _ (List.mem_append_left _ (List.mem_append_left _ (List.mem_append_left _ (List.mem_append_left _ (List.mem_append_left _ (List.mem_append_left _ (List.mem_append_left _ (List.mem_of_getElem? (i := 2) rfl))))))))) rfl dX7_getMargin_15 rfl ?_
  refine v_get (c := (2 + 0)) (k := 1) (C := RX3) (T := TX3) (N := 3) (v := .ref (vAd X (6 + 2 * 0))) K (isO_Pl (y := 0) (by omega)) rfl (fun _ h => (List.mem_cons_of_mem _ (List.mem_append_left _ (List.mem_append_left _ (List.mem_append_left _ (List.mem_append_right _ h)))))) (by decide) (List.mem_cons_of_mem _ (List.mem_append_left _ (List.mem_append_left _ (List.mem_append_left _ (List.mem_append_left _ (List.mem_append_left _ (List.mem_append_left _ (List.mem_append_left _ (List.mem_of_getElem? (i := 3) rfl))))))))) rfl dX7_getMargin_18 rfl ?_
  refine v_iload_n 1 K dX7_getMargin_21 rfl ?_
  refine v_iald (c := (6 + 2 * 0)) r K (isI_ld (y := 0) (by omega)) rfl (by omega) dX7_getMargin_22 ?_
  refine v_callVir (c := (21 + r)) (As := [.int (iZ (μ (6 + 2 * 0) r))]) (rest := []) K (isO_Rs (r := r) (by omega)) rfl 1 (c_X5_marginBy X.1.2.1 K.2.2.2.2.2.2 _ _ _ μ r (μ (6 + 2 * 0) r) (by omega) (by omega) hW) gX7_getMargin_X5_marginBy rfl rfl rfl (by decide +kernel) ⟨(Nat.le_of_ble_eq_true rfl), (Nat.le_of_ble_eq_true rfl)⟩ rfl rfl (Nat.le_of_ble_eq_true rfl) dX7_getMargin_23 ⟨(Nat.le_of_ble_eq_true rfl), (Nat.le_of_ble_eq_true rfl)⟩ ?_
  exact hret _ _ ⟨rfl, rfl⟩ _ _ _ _ _ (Nat.le_of_ble_eq_true rfl) (Nat.le_of_ble_eq_true rfl) dX7_getMargin_26
theorem c_X7_getMargin (l : Launch) (hl : l.stackTraces = false) (D : va_G) (cy : Nat → ClassId) (ad : Nat → Nat) (μ : Mem) (r : Nat) (hW : WF μ) (hL : PL μ 0) (hr : r < rc μ) : cI l yX7_getMargin wsX7_getMargin ({ frames := 2, cells := 0, slots := 0, locals := 42 } : Room) D cy ad μ [.ref (ad 0), .int (iZ (r : Int))] (fun (z : Int) (ν : Mem) => z = mrg μ r (μ (6 + 2 * 0) r) ∧ ν = μ) :=
  m_int (av := (fun ad => [.ref (ad 0), .int (iZ (r : Int))])) hl (by decide) rfl rfl (Nat.le_of_ble_eq_true rfl) (fun _ _ _ => rfl) (fun X K hret => b_X7_getMargin r hW hL hr K hret)
theorem dX7_bestWay_0 : decode cX7_bestWay 0 = .ok (.aload_n 0, 1) := by decide +kernel
theorem dX7_bestWay_1 : decode cX7_bestWay 1 = .ok (.iload_n 1, 1) := by decide +kernel
theorem dX7_bestWay_2 : decode cX7_bestWay 2 = .ok (.invokevirtual 88, 3) := by decide +kernel
set_option maxRecDepth 20000 in
theorem ggX7_bestWay_X7_checkPlayer : GoodIn wsX7_bestWay wsX7_checkPlayer := goodIn_ca (goodIn_r _ [10, 11, 12, 5, 13, 52, 53, 54, 55, 56, 57, 58, 62, 63, 64, 65] (by decide +kernel) (by decide +kernel)) (goodIn_sub (fun _ h => List.mem_cons_of_mem _ (List.mem_append_right _ h)) (by decide +kernel))
set_option maxRecDepth 20000 in
theorem gX7_bestWay_X7_checkPlayer : GoodIn wsX7_bestWay (wsV RX7 88 RX7 yX7_checkPlayer wsX7_checkPlayer) := goodIn_app (goodIn_of _ (by decide +kernel)) ggX7_bestWay_X7_checkPlayer
theorem dX7_bestWay_5 : decode cX7_bestWay 5 = .ok (.aload_n 0, 1) := by decide +kernel
theorem dX7_bestWay_6 : decode cX7_bestWay 6 = .ok (.getfield 19, 3) := by decide +kernel
theorem dX7_bestWay_9 : decode cX7_bestWay 9 = .ok (.getfield 161, 3) := by decide +kernel
theorem dX7_bestWay_12 : decode cX7_bestWay 12 = .ok (.iload_n 1, 1) := by decide +kernel
theorem dX7_bestWay_13 : decode cX7_bestWay 13 = .ok (.iaload, 1) := by decide +kernel
theorem dX7_bestWay_14 : decode cX7_bestWay 14 = .ok (.ifCond .ge 13, 3) := by decide +kernel
theorem dX7_bestWay_27 : decode cX7_bestWay 27 = .ok (.aload_n 0, 1) := by decide +kernel
theorem dX7_bestWay_28 : decode cX7_bestWay 28 = .ok (.getfield 10, 3) := by decide +kernel
theorem dX7_bestWay_31 : decode cX7_bestWay 31 = .ok (.aload_n 0, 1) := by decide +kernel
theorem dX7_bestWay_32 : decode cX7_bestWay 32 = .ok (.getfield 19, 3) := by decide +kernel
theorem dX7_bestWay_35 : decode cX7_bestWay 35 = .ok (.iload_n 1, 1) := by decide +kernel
theorem dX7_bestWay_36 : decode cX7_bestWay 36 = .ok (.invokevirtual 225, 3) := by decide +kernel
set_option maxRecDepth 20000 in
theorem ggX7_bestWay_X0_bestOf : GoodIn wsX7_bestWay wsX0_bestOf := goodIn_ca (goodIn_r _ [18, 19, 20, 21, 22, 23, 24, 17, 25, 26, 27, 28, 29, 30, 31, 32, 33, 34, 35, 36, 37, 38, 39, 9, 40, 41, 42, 43, 44, 45, 46, 47, 48, 49, 50, 51, 59, 60, 61, 62, 63, 64, 65, 66, 67, 68, 69, 70, 71, 72, 73, 74, 75, 76, 77, 78] (by decide +kernel) (by decide +kernel)) (goodIn_sub (fun _ h => List.mem_cons_of_mem _ (List.mem_append_left _ (List.mem_append_left _ (List.mem_append_right _ h)))) (by decide +kernel))
set_option maxRecDepth 20000 in
theorem gX7_bestWay_X0_bestOf : GoodIn wsX7_bestWay (wsV RX7 225 RX0 yX0_bestOf wsX0_bestOf) := goodIn_app (goodIn_of _ (by decide +kernel)) ggX7_bestWay_X0_bestOf
theorem dX7_bestWay_39 : decode cX7_bestWay 39 = .ok (.ireturn, 1) := by decide +kernel
set_option maxHeartbeats 4000000 in
set_option maxRecDepth 100000 in
theorem b_X7_bestWay {X : VC} {μ : Mem} (p : Nat) (hW : WF μ) (hB : PB μ 0) (hp : p < pcn μ) (hch : 0 ≤ μ (5 + 2 * 0) p) (K : vK X cX7_bestWay 2 RX7 wsX7_bestWay ({ frames := 3, cells := 0, slots := 0, locals := 76 } : Room)) (hret : ∀ (z : Int) (ν : Mem), (fun (z : Int) (ν : Mem) => z = bst μ 0 p ∧ ν = μ) z ν → ∀ n pc k1 k2 lv, k1 ≤ 0 → k2 ≤ 0 → decode cX7_bestWay pc = .ok (.ireturn, 1) → vW X n pc k1 k2 lv [.int (iZ z)] ν) : vW X 2 0 0 0 [(0, .ref (vAd X 0)), (1, .int (iZ (p : Int)))] [] μ := by
  have hpc := hW.pc6
  have hpl := hW.pl (p := p) (by omega)
  have hc1 := hB.1 p (by omega)
  refine v_aload_n 0 K dX7_bestWay_0 rfl ?_
  refine v_iload_n 1 K dX7_bestWay_1 rfl ?_
  refine v_callVvr (c := 0) (As := [.int (iZ (p : Int))]) (rest := []) K isO_SJ rfl 1 (c_X7_checkPlayer X.1.2.1 K.2.2.2.2.2.2 _ _ _ μ (p : Int) (by omega) (by omega)) gX7_bestWay_X7_checkPlayer rfl rfl rfl (by decide +kernel) ⟨(Nat.le_of_ble_eq_true rfl), (Nat.le_of_ble_eq_true rfl)⟩ rfl rfl (Nat.le_of_ble_eq_true rfl) dX7_bestWay_2 ⟨(Nat.le_of_ble_eq_true rfl), (Nat.le_of_ble_eq_true rfl)⟩ ?_
  refine v_aload_n 0 K dX7_bestWay_5 rfl ?_
  refine v_get (c := 0) (k := 1) (C := RX7) (T := TX7) (N := 7) (v := .ref (vAd X (2 + 0))) K isO_SJ rfl (fun _ h => (List.mem_cons_of_mem _ (List.mem_append_left _ (List.mem_append_left _ (List.mem_append_left _ (List.mem_append_left _ (List.mem_append_left _ (List.mem_append_left _ (List.mem_append_left _ (List.mem_append_right _ h)))))))))) (by decide) (List.mem_cons_of_mem _ (List.mem_append_left _ (List.mem_append_left _ (List.mem_append_left _ (List.mem_append_left _ (List.mem_append_left _ (List.mem_append_left _ (List.mem_append_left _ (List.mem_append_left _ (List.mem_append_left _ (List.mem_of_getElem? (i := 2) rfl))))))))))) rfl dX7_bestWay_6 rfl ?_
  refine v_get (c := (2 + 0)) (k := 0) (C := RX3) (T := TX3) (N := 3) (v := .ref (vAd X (5 + 2 * 0))) K (isO_Pl (y := 0) (by omega)) rfl (fun _ h => (List.mem_cons_of_mem _ (List.mem_append_left _ (List.mem_append_left _ (List.mem_append_left _ (List.mem_append_left _ (List.mem_append_left _ (List.mem_append_left _ (List.mem_append_right _ h))))))))) (by decide) (List.mem_cons_of_mem _ (List.mem_append_left _ (List.mem_append_left _ (List.mem_append_left _ (List.mem_append_left _ (List.mem_append_left _ (List.mem_append_left _ (List.mem_append_left _ (List.mem_append_left _ (List.mem_append_left _ (List.mem_of_getElem? (i := 3) rfl))))))))))) rfl dX7_bestWay_9 rfl ?_
  refine v_iload_n 1 K dX7_bestWay_12 rfl ?_
  refine v_iald (c := (5 + 2 * 0)) p K (isI_ch (y := 0) (by omega)) rfl (by omega) dX7_bestWay_13 ?_
  refine v_if_ge 27 K dX7_bestWay_14 (by decide) (by omega) (fun c14 => ?_) (fun c14 => (by exfalso; omega))
  refine v_aload_n 0 K dX7_bestWay_27 rfl ?_
  refine v_get (c := 0) (k := 0) (C := RX7) (T := TX7) (N := 7) (v := .ref (vAd X 1)) K isO_SJ rfl (fun _ h => (List.mem_cons_of_mem _ (List.mem_append_left _ (List.mem_append_left _ (List.mem_append_left _ (List.mem_append_left _ (List.mem_append_left _ (List.mem_append_left _ (List.mem_append_left _ (List.mem_append_right _ h)))))))))) (by decide) (List.mem_cons_of_mem _ (List.mem_append_left _ (List.mem_append_left _ (List.mem_append_left _ (List.mem_append_left _ (List.mem_append_left _ (List.mem_append_left _ (List.mem_append_left _ (List.mem_append_left _ (List.mem_append_left _ (List.mem_of_getElem? (i := 4) rfl))))))))))) rfl dX7_bestWay_28 rfl ?_
  refine v_aload_n 0 K dX7_bestWay_31 rfl ?_
  refine v_get (c := 0) (k := 1) (C := RX7) (T := TX7) (N := 7) (v := .ref (vAd X (2 + 0))) K isO_SJ rfl (fun _ h => (List.mem_cons_of_mem _ (List.mem_append_left _ (List.mem_append_left _ (List.mem_append_left _ (List.mem_append_left _ (List.mem_append_left _ (List.mem_append_left _ (List.mem_append_left _ (List.mem_append_right _ h)))))))))) (by decide) (List.mem_cons_of_mem _ (List.mem_append_left _ (List.mem_append_left _ (List.mem_append_left _ (List.mem_append_left _ (List.mem_append_left _ (List.mem_append_left _ (List.mem_append_left _ (List.mem_append_left _ (List.mem_append_left _ (List.mem_of_getElem? (i := 2) rfl))))))))))) rfl dX7_bestWay_32 rfl ?_
  refine v_iload_n 1 K dX7_bestWay_35 rfl ?_
  refine v_callVir (c := 1) (As := [.ref (vAd X (2 + 0)), .int (iZ (p : Int))]) (rest := []) K isO_Bd rfl 2 (c_X0_bestOf X.1.2.1 K.2.2.2.2.2.2 _ _ _ μ 0 p (by omega) (by omega) hW hB) gX7_bestWay_X0_bestOf rfl rfl rfl (by decide +kernel) ⟨(Nat.le_of_ble_eq_true rfl), (Nat.le_of_ble_eq_true rfl)⟩ rfl rfl (Nat.le_of_ble_eq_true rfl) dX7_bestWay_36 ⟨(Nat.le_of_ble_eq_true rfl), (Nat.le_of_ble_eq_true rfl)⟩ ?_
  exact hret _ _ ⟨rfl, rfl⟩ _ _ _ _ _ (Nat.le_of_ble_eq_true rfl) (Nat.le_of_ble_eq_true rfl) dX7_bestWay_39
theorem c_X7_bestWay (l : Launch) (hl : l.stackTraces = false) (D : va_G) (cy : Nat → ClassId) (ad : Nat → Nat) (μ : Mem) (p : Nat) (hW : WF μ) (hB : PB μ 0) (hp : p < pcn μ) (hch : 0 ≤ μ (5 + 2 * 0) p) : cI l yX7_bestWay wsX7_bestWay ({ frames := 3, cells := 0, slots := 0, locals := 76 } : Room) D cy ad μ [.ref (ad 0), .int (iZ (p : Int))] (fun (z : Int) (ν : Mem) => z = bst μ 0 p ∧ ν = μ) :=
  m_int (av := (fun ad => [.ref (ad 0), .int (iZ (p : Int))])) hl (by decide) rfl rfl (Nat.le_of_ble_eq_true rfl) (fun _ _ _ => rfl) (fun X K hret => b_X7_bestWay p hW hB hp hch K hret)
theorem dX7_isRest_0 : decode cX7_isRest 0 = .ok (.aload_n 0, 1) := by decide +kernel
theorem dX7_isRest_1 : decode cX7_isRest 1 = .ok (.getfield 10, 3) := by decide +kernel
theorem dX7_isRest_4 : decode cX7_isRest 4 = .ok (.aload_n 0, 1) := by decide +kernel
theorem dX7_isRest_5 : decode cX7_isRest 5 = .ok (.getfield 19, 3) := by decide +kernel
theorem dX7_isRest_8 : decode cX7_isRest 8 = .ok (.iconst 0, 1) := by decide +kernel
theorem dX7_isRest_9 : decode cX7_isRest 9 = .ok (.invokevirtual 236, 3) := by decide +kernel
set_option maxRecDepth 20000 in
theorem ggX7_isRest_X0_firstToGain : GoodIn wsX7_isRest wsX0_firstToGain := goodIn_ca (goodIn_r _ [7, 8, 9, 10, 11, 12, 13, 14, 15, 6, 16, 17, 18, 19, 20, 21, 22, 23, 24, 25, 26, 27, 28, 29, 30, 31, 32, 33, 34, 35, 36, 37, 38, 39, 40, 41, 42, 43, 44, 45, 46, 47, 48, 49, 50, 51, 52, 53, 54, 55, 56, 57, 58, 59, 60, 61, 62, 63, 71, 72, 73, 74, 75, 76, 77, 78, 79, 80, 81, 82, 83, 84, 85, 86, 87, 88, 89, 90] (by decide +kernel) (by decide +kernel)) (goodIn_sub (fun _ h => List.mem_cons_of_mem _ (List.mem_append_right _ h)) (by decide +kernel))
set_option maxRecDepth 20000 in
theorem gX7_isRest_X0_firstToGain : GoodIn wsX7_isRest (wsV RX7 236 RX0 yX0_firstToGain wsX0_firstToGain) := goodIn_app (goodIn_of _ (by decide +kernel)) ggX7_isRest_X0_firstToGain
theorem dX7_isRest_12 : decode cX7_isRest 12 = .ok (.ifCond .ge 7, 3) := by decide +kernel
theorem dX7_isRest_19 : decode cX7_isRest 19 = .ok (.iconst 0, 1) := by decide +kernel
theorem dX7_isRest_20 : decode cX7_isRest 20 = .ok (.ireturn, 1) := by decide +kernel
theorem dX7_isRest_15 : decode cX7_isRest 15 = .ok (.iconst 1, 1) := by decide +kernel
theorem dX7_isRest_16 : decode cX7_isRest 16 = .ok (.goto 4, 3) := by decide +kernel
set_option maxHeartbeats 4000000 in
set_option maxRecDepth 100000 in
theorem b_X7_isRest {X : VC} {μ : Mem} (hW : WF μ) (hB : PB μ 0) (K : vK X cX7_isRest 1 RX7 wsX7_isRest ({ frames := 5, cells := 0, slots := 0, locals := 122 } : Room)) (hret : ∀ (z : Int) (ν : Mem), (fun (z : Int) (ν : Mem) => ν = μ ∧ ((z = 1 ∧ ∀ j, j < pcn μ → gn μ 0 j ≤ 0) ∨ (z = 0 ∧ ∃ j, j < pcn μ ∧ 0 < gn μ 0 j))) z ν → ∀ n pc k1 k2 lv, k1 ≤ 0 → k2 ≤ 0 → decode cX7_isRest pc = .ok (.ireturn, 1) → vW X n pc k1 k2 lv [.int (iZ z)] ν) : vW X 1 0 0 0 [(0, .ref (vAd X 0))] [] μ := by
  have hpc := hW.pc6
  refine v_aload_n 0 K dX7_isRest_0 rfl ?_
  refine v_get (c := 0) (k := 0) (C := RX7) (T := TX7) (N := 7) (v := .ref (vAd X 1)) K isO_SJ rfl (fun _ h => (List.mem_cons_of_mem _ (List.mem_append_left _ (List.mem_append_left _ (List.mem_append_left _ (List.mem_append_left _ (List.mem_append_left _ (List.mem_append_right _ h)))))))) (by decide) (List.mem_cons_of_mem _ (List.mem_append_left _ (List.mem_append_left _ (List.mem_append_left _ (List.mem_append_left _ (List.mem_append_left _ (List.mem_append_left _ (List.mem_append_left _ (List.mem_of_getElem? (i := 0) rfl))))))))) rfl dX7_isRest_1 rfl ?_
  refine v_aload_n 0 K dX7_isRest_4 rfl ?_
  refine v_get (c := 0) (k := 1) (C := RX7) (T := TX7) (N := 7) (v := .ref (vAd X (2 + 0))) K isO_SJ rfl (fun _ h => (List.mem_cons_of_mem _ (List.mem_append_left _ (List.mem_append_left _ (List.mem_append_left _ (List.mem_append_left _ (List.mem_append_left _ (List.mem_append_right _ h)))))))) (by decide) (List.mem_cons_of_mem _ (List.mem_append_left _ (List.mem_append_left _ (List.mem_append_left _ (List.mem_append_left _ (List.mem_append_left _ (List.mem_append_left _ (List.mem_append_left _ (List.mem_of_getElem? (i := 1) rfl))))))))) rfl dX7_isRest_5 rfl ?_
  refine v_iconst K dX7_isRest_8 ?_
  refine v_eq (lv1 := [(0, .ref (vAd X 0))]) (st1 := [.int (iZ ((0 : Nat) : Int)), .ref (vAd X (2 + 0)), .ref (vAd X 1)]) rfl (v_sI (by omega) (v_s0 (v_s0 rfl))) ?_
  refine v_callVis (c := 1) (As := [.ref (vAd X (2 + 0)), .int (iZ ((0 : Nat) : Int))]) (rest := []) K isO_Bd rfl 2 (c_X0_firstToGain X.1.2.1 K.2.2.2.2.2.2 _ _ _ μ 0 0 (by omega) (by omega) hW hB) gX7_isRest_X0_firstToGain rfl rfl rfl (by decide +kernel) ⟨(Nat.le_of_ble_eq_true rfl), (Nat.le_of_ble_eq_true rfl)⟩ rfl rfl (Nat.le_of_ble_eq_true rfl) dX7_isRest_9 ⟨(Nat.le_of_ble_eq_true rfl), (Nat.le_of_ble_eq_true rfl)⟩ (fun z9 q9 => ?_)
  have hq9 := FG_rng q9
  refine v_if_ge 19 K dX7_isRest_12 (by decide) (by omega) (fun c12 => ?_) (fun c12 => ?_)
  · refine v_iconst K dX7_isRest_19 ?_
    exact hret _ _ ⟨rfl, Or.inr ⟨rfl, FG_some q9 (by omega)⟩⟩ _ _ _ _ _ (Nat.le_of_ble_eq_true rfl) (Nat.le_of_ble_eq_true rfl) dX7_isRest_20
  · refine v_iconst K dX7_isRest_15 ?_
    refine v_goto 20 K dX7_isRest_16 (by decide) ?_
    exact hret _ _ ⟨rfl, Or.inl ⟨rfl, FG_none q9 (by omega)⟩⟩ _ _ _ _ _ (Nat.le_of_ble_eq_true rfl) (Nat.le_of_ble_eq_true rfl) dX7_isRest_20
theorem c_X7_isRest (l : Launch) (hl : l.stackTraces = false) (D : va_G) (cy : Nat → ClassId) (ad : Nat → Nat) (μ : Mem) (hW : WF μ) (hB : PB μ 0) : cI l yX7_isRest wsX7_isRest ({ frames := 5, cells := 0, slots := 0, locals := 122 } : Room) D cy ad μ [.ref (ad 0)] (fun (z : Int) (ν : Mem) => ν = μ ∧ ((z = 1 ∧ ∀ j, j < pcn μ → gn μ 0 j ≤ 0) ∨ (z = 0 ∧ ∃ j, j < pcn μ ∧ 0 < gn μ 0 j))) :=
  m_int (av := (fun ad => [.ref (ad 0)])) hl (by decide) rfl rfl (Nat.le_of_ble_eq_true rfl) (fun z ν q => (nar_z (by have := q.2; omega)).1) (fun X K hret => b_X7_isRest hW hB K hret)
theorem dX7_greatestGain_0 : decode cX7_greatestGain 0 = .ok (.aload_n 0, 1) := by decide +kernel
theorem dX7_greatestGain_1 : decode cX7_greatestGain 1 = .ok (.getfield 10, 3) := by decide +kernel
theorem dX7_greatestGain_4 : decode cX7_greatestGain 4 = .ok (.aload_n 0, 1) := by decide +kernel
theorem dX7_greatestGain_5 : decode cX7_greatestGain 5 = .ok (.getfield 19, 3) := by decide +kernel
theorem dX7_greatestGain_8 : decode cX7_greatestGain 8 = .ok (.invokevirtual 239, 3) := by decide +kernel
set_option maxRecDepth 20000 in
theorem ggX7_greatestGain_X0_mostToGain : GoodIn wsX7_greatestGain wsX0_mostToGain := goodIn_ca (goodIn_r _ [7, 8, 9, 10, 11, 6, 12, 13, 14, 15, 16, 17, 18, 19, 20, 21, 22, 23, 24, 25, 26, 27, 28, 29, 30, 31, 32, 33, 34, 35, 36, 37, 38, 39, 40, 41, 42, 43, 44, 45, 46, 47, 48, 49, 50, 51, 52, 53, 54, 55, 56, 57, 58, 59, 68, 69, 70, 71, 72, 73, 74, 75, 76, 77, 78, 79, 80, 81, 82, 83, 84, 85, 86, 87] (by decide +kernel) (by decide +kernel)) (goodIn_sub (fun _ h => List.mem_cons_of_mem _ (List.mem_append_right _ h)) (by decide +kernel))
set_option maxRecDepth 20000 in
theorem gX7_greatestGain_X0_mostToGain : GoodIn wsX7_greatestGain (wsV RX7 239 RX0 yX0_mostToGain wsX0_mostToGain) := goodIn_app (goodIn_of _ (by decide +kernel)) ggX7_greatestGain_X0_mostToGain
theorem dX7_greatestGain_11 : decode cX7_greatestGain 11 = .ok (.istore_n 1, 1) := by decide +kernel
theorem dX7_greatestGain_12 : decode cX7_greatestGain 12 = .ok (.iload_n 1, 1) := by decide +kernel
theorem dX7_greatestGain_20 : decode cX7_greatestGain 20 = .ok (.aload_n 0, 1) := by decide +kernel
theorem dX7_greatestGain_21 : decode cX7_greatestGain 21 = .ok (.getfield 10, 3) := by decide +kernel
theorem dX7_greatestGain_24 : decode cX7_greatestGain 24 = .ok (.aload_n 0, 1) := by decide +kernel
theorem dX7_greatestGain_25 : decode cX7_greatestGain 25 = .ok (.getfield 19, 3) := by decide +kernel
theorem dX7_greatestGain_28 : decode cX7_greatestGain 28 = .ok (.iload_n 1, 1) := by decide +kernel
theorem dX7_greatestGain_29 : decode cX7_greatestGain 29 = .ok (.invokevirtual 233, 3) := by decide +kernel
set_option maxRecDepth 20000 in
theorem ggX7_greatestGain_X0_gainOf : GoodIn wsX7_greatestGain wsX0_gainOf := goodIn_ca (goodIn_r _ [12, 13, 14, 15, 6, 16, 17, 18, 19, 20, 21, 22, 23, 24, 25, 26, 27, 28, 29, 30, 31, 32, 33, 34, 35, 36, 37, 38, 39, 40, 41, 42, 43, 44, 45, 46, 47, 48, 49, 50, 51, 52, 53, 54, 55, 56, 57, 58, 59, 68, 69, 70, 71, 72, 73, 74, 75, 76, 77, 78, 79, 80, 81, 82, 83, 84, 85, 86, 87] (by decide +kernel) (by decide +kernel)) (goodIn_sub (fun _ h => List.mem_cons_of_mem _ (List.mem_append_right _ h)) (by decide +kernel))
set_option maxRecDepth 20000 in
theorem gX7_greatestGain_X0_gainOf : GoodIn wsX7_greatestGain (wsV RX7 233 RX0 yX0_gainOf wsX0_gainOf) := goodIn_app (goodIn_of _ (by decide +kernel)) ggX7_greatestGain_X0_gainOf
theorem dX7_greatestGain_32 : decode cX7_greatestGain 32 = .ok (.ireturn, 1) := by decide +kernel
theorem dX7_greatestGain_13 : decode cX7_greatestGain 13 = .ok (.ifCond .ge 7, 3) := by decide +kernel
theorem dX7_greatestGain_16 : decode cX7_greatestGain 16 = .ok (.iconst 0, 1) := by decide +kernel
theorem dX7_greatestGain_17 : decode cX7_greatestGain 17 = .ok (.goto 15, 3) := by decide +kernel
set_option maxHeartbeats 4000000 in
set_option maxRecDepth 100000 in
theorem b_X7_greatestGain {X : VC} {μ : Mem} (hW : WF μ) (hB : PB μ 0) (K : vK X cX7_greatestGain 2 RX7 wsX7_greatestGain ({ frames := 5, cells := 0, slots := 0, locals := 123 } : Room)) (hret : ∀ (z : Int) (ν : Mem), (fun (z : Int) (ν : Mem) => z = (mgF μ 0 (pcn μ)).2 ∧ ν = μ) z ν → ∀ n pc k1 k2 lv, k1 ≤ 0 → k2 ≤ 0 → decode cX7_greatestGain pc = .ok (.ireturn, 1) → vW X n pc k1 k2 lv [.int (iZ z)] ν) : vW X 2 0 0 0 [(0, .ref (vAd X 0))] [] μ := by
  have hpc := hW.pc6
  have hm := mgF_rng hW (y := 0) (pcn μ) (by omega)
  have hg := mgF_gn μ 0 (pcn μ)
  refine v_aload_n 0 K dX7_greatestGain_0 rfl ?_
  refine v_get (c := 0) (k := 0) (C := RX7) (T := TX7) (N := 7) (v := .ref (vAd X 1)) K isO_SJ rfl (fun _ h => (List.mem_cons_of_mem _ (List.mem_append_left _ (List.mem_append_left _ (List.mem_append_left _ (List.mem_append_left _ (List.mem_append_left _ (List.mem_append_right _ h)))))))) (by decide) (List.mem_cons_of_mem _ (List.mem_append_left _ (List.mem_append_left _ (List.mem_append_left _ (List.mem_append_left _ (List.mem_append_left _ (List.mem_append_left _ (List.mem_append_left _ (List.mem_of_getElem? (i := 0) rfl))))))))) rfl dX7_greatestGain_1 rfl ?_
  refine v_aload_n 0 K dX7_greatestGain_4 rfl ?_
  refine v_get (c := 0) (k := 1) (C := RX7) (T := TX7) (N := 7) (v := .ref (vAd X (2 + 0))) K isO_SJ rfl (fun _ h => (List.mem_cons_of_mem _ (List.mem_append_left _ (List.mem_append_left _ (List.mem_append_left _ (List.mem_append_left _ (List.mem_append_left _ (List.mem_append_right _ h)))))))) (by decide) (List.mem_cons_of_mem _ (List.mem_append_left _ (List.mem_append_left _ (List.mem_append_left _ (List.mem_append_left _ (List.mem_append_left _ (List.mem_append_left _ (List.mem_append_left _ (List.mem_of_getElem? (i := 1) rfl))))))))) rfl dX7_greatestGain_5 rfl ?_
  refine v_callVir (c := 1) (As := [.ref (vAd X (2 + 0))]) (rest := []) K isO_Bd rfl 1 (c_X0_mostToGain X.1.2.1 K.2.2.2.2.2.2 _ _ _ μ 0 (by omega) hW hB) gX7_greatestGain_X0_mostToGain rfl rfl rfl (by decide +kernel) ⟨(Nat.le_of_ble_eq_true rfl), (Nat.le_of_ble_eq_true rfl)⟩ rfl rfl (Nat.le_of_ble_eq_true rfl) dX7_greatestGain_8 ⟨(Nat.le_of_ble_eq_true rfl), (Nat.le_of_ble_eq_true rfl)⟩ ?_
  refine v_istore_n [(1, .int (iZ ((mgF μ 0 (pcn μ)).1))), (0, .ref (vAd X 0))] K dX7_greatestGain_11 (by decide) rfl ?_
  refine v_iload_n 0 K dX7_greatestGain_12 rfl ?_
  have L20 : ∀ (k : Nat) (hk : (mgF μ 0 (pcn μ)).1 = (k : Int)), vW X 2 20 0 0 [(0, .ref (vAd X 0)), (1, .int (iZ (k : Int)))] [] μ := by
    intro k hk
    refine v_aload_n 0 K dX7_greatestGain_20 rfl ?_
    refine v_get (c := 0) (k := 0) (C := RX7) (T := TX7) (N := 7) (v := .ref (vAd X 1)) K isO_SJ rfl (fun _ h => (List.mem_cons_of_mem _ (List.mem_append_left _ (List.mem_append_left _ (List.mem_append_left _ (List.mem_append_left _ (List.mem_append_left _ (List.mem_append_right _ h)))))))) (by decide) (List.mem_cons_of_mem _ (List.mem_append_left _ (List.mem_append_left _ (List.mem_append_left _ (List.mem_append_left _ (List.mem_append_left _ (List.mem_append_left _ (List.mem_append_left _ (List.mem_of_getElem? (i := 0) rfl))))))))) rfl dX7_greatestGain_21 rfl ?_
    refine v_aload_n 0 K dX7_greatestGain_24 rfl ?_
    refine v_get (c := 0) (k := 1) (C := RX7) (T := TX7) (N := 7) (v := .ref (vAd X (2 + 0))) K isO_SJ rfl (fun _ h => (List.mem_cons_of_mem _ (List.mem_append_left _ (List.mem_append_left _ (List.mem_append_left _ (List.mem_append_left _ (List.mem_append_left _ (List.mem_append_right _ h)))))))) (by decide) (List.mem_cons_of_mem _ (List.mem_append_left _ (List.mem_append_left _ (List.mem_append_left _ (List.mem_append_left _ (List.mem_append_left _ (List.mem_append_left _ (List.mem_append_left _ (List.mem_of_getElem? (i := 1) rfl))))))))) rfl dX7_greatestGain_25 rfl ?_
    refine v_iload_n 1 K dX7_greatestGain_28 rfl ?_
    refine v_callVir (c := 1) (As := [.ref (vAd X (2 + 0)), .int (iZ (k : Int))]) (rest := []) K isO_Bd rfl 2 (c_X0_gainOf X.1.2.1 K.2.2.2.2.2.2 _ _ _ μ 0 k (by omega) (by omega) hW hB) gX7_greatestGain_X0_gainOf rfl rfl rfl (by decide +kernel) ⟨(Nat.le_of_ble_eq_true rfl), (Nat.le_of_ble_eq_true rfl)⟩ rfl rfl (Nat.le_of_ble_eq_true rfl) dX7_greatestGain_29 ⟨(Nat.le_of_ble_eq_true rfl), (Nat.le_of_ble_eq_true rfl)⟩ ?_
    exact hret _ _ ⟨hg.2 k hk, rfl⟩ _ _ _ _ _ (Nat.le_of_ble_eq_true rfl) (Nat.le_of_ble_eq_true rfl) dX7_greatestGain_32
  refine v_if_ge 20 K dX7_greatestGain_13 (by decide) (by omega) (fun c13 => ?_) (fun c13 => ?_)
  · refine v_sub [1, 0] rfl ?_
    refine v_eq (lv1 := [(0, .ref (vAd X 0)), (1, .int (iZ (((((mgF μ 0 (pcn μ)).1).toNat) : Nat) : Int)))]) (st1 := []) (v_c0 (v_cI (by omega) rfl)) rfl ?_
    exact L20 (((mgF μ 0 (pcn μ)).1).toNat) (by omega)
  · refine v_iconst K dX7_greatestGain_16 ?_
    refine v_goto 32 K dX7_greatestGain_17 (by decide) ?_
    exact hret _ _ ⟨(by have := hg.1; omega), rfl⟩ _ _ _ _ _ (Nat.le_of_ble_eq_true rfl) (Nat.le_of_ble_eq_true rfl) dX7_greatestGain_32
theorem c_X7_greatestGain (l : Launch) (hl : l.stackTraces = false) (D : va_G) (cy : Nat → ClassId) (ad : Nat → Nat) (μ : Mem) (hW : WF μ) (hB : PB μ 0) : cI l yX7_greatestGain wsX7_greatestGain ({ frames := 5, cells := 0, slots := 0, locals := 123 } : Room) D cy ad μ [.ref (ad 0)] (fun (z : Int) (ν : Mem) => z = (mgF μ 0 (pcn μ)).2 ∧ ν = μ) :=
  m_int (av := (fun ad => [.ref (ad 0)])) hl (by decide) rfl rfl (Nat.le_of_ble_eq_true rfl) (fun _ _ _ => rfl) (fun X K hret => b_X7_greatestGain hW hB K hret)
theorem dX7_addResource_0 : decode cX7_addResource 0 = .ok (.aload_n 0, 1) := by decide +kernel
theorem dX7_addResource_1 : decode cX7_addResource 1 = .ok (.iload_n 1, 1) := by decide +kernel
theorem dX7_addResource_2 : decode cX7_addResource 2 = .ok (.iload_n 2, 1) := by decide +kernel
theorem dX7_addResource_3 : decode cX7_addResource 3 = .ok (.iload_n 3, 1) := by decide +kernel
theorem dX7_addResource_4 : decode cX7_addResource 4 = .ok (.invokevirtual 51, 3) := by decide +kernel
set_option maxRecDepth 20000 in
theorem ggX7_addResource_X7_checkNumbers : GoodIn wsX7_addResource wsX7_checkNumbers := goodIn_ca (goodIn_r _ [6, 7, 8, 9, 10, 11, 5, 12] (by decide +kernel) (by decide +kernel)) (goodIn_sub (fun _ h => List.mem_cons_of_mem _ (List.mem_append_left _ (List.mem_append_left _ (List.mem_append_right _ h)))) (by decide +kernel))
set_option maxRecDepth 20000 in
theorem gX7_addResource_X7_checkNumbers : GoodIn wsX7_addResource (wsV RX7 51 RX7 yX7_checkNumbers wsX7_checkNumbers) := goodIn_app (goodIn_of _ (by decide +kernel)) ggX7_addResource_X7_checkNumbers
theorem dX7_addResource_7 : decode cX7_addResource 7 = .ok (.aload_n 0, 1) := by decide +kernel
theorem dX7_addResource_8 : decode cX7_addResource 8 = .ok (.invokevirtual 55, 3) := by decide +kernel
set_option maxRecDepth 20000 in
theorem ggX7_addResource_X7_checkRoomForResource : GoodIn wsX7_addResource wsX7_checkRoomForResource := goodIn_ca (goodIn_r _ [16, 17, 18, 1, 19, 43, 44, 45, 46, 47, 48, 49, 50, 51, 52, 53] (by decide +kernel) (by decide +kernel)) (goodIn_sub (fun _ h => List.mem_cons_of_mem _ (List.mem_append_left _ (List.mem_append_right _ h))) (by decide +kernel))
set_option maxRecDepth 20000 in
theorem gX7_addResource_X7_checkRoomForResource : GoodIn wsX7_addResource (wsV RX7 55 RX7 yX7_checkRoomForResource wsX7_checkRoomForResource) := goodIn_app (goodIn_of _ (by decide +kernel)) ggX7_addResource_X7_checkRoomForResource
theorem dX7_addResource_11 : decode cX7_addResource 11 = .ok (.aload_n 0, 1) := by decide +kernel
theorem dX7_addResource_12 : decode cX7_addResource 12 = .ok (.getfield 10, 3) := by decide +kernel
theorem dX7_addResource_15 : decode cX7_addResource 15 = .ok (.iload_n 1, 1) := by decide +kernel
theorem dX7_addResource_16 : decode cX7_addResource 16 = .ok (.iload_n 2, 1) := by decide +kernel
theorem dX7_addResource_17 : decode cX7_addResource 17 = .ok (.iload_n 3, 1) := by decide +kernel
theorem dX7_addResource_18 : decode cX7_addResource 18 = .ok (.invokevirtual 58, 3) := by decide +kernel
set_option maxRecDepth 20000 in
theorem ggX7_addResource_X0_putResource : GoodIn wsX7_addResource wsX0_putResource := goodIn_ca (goodIn_r _ [24, 25, 26, 27, 28, 29, 30, 31, 32, 33, 34, 35, 36, 37, 38, 39, 40, 41, 42, 50, 51, 52, 53, 54, 55, 56, 57, 58, 59, 60] (by decide +kernel) (by decide +kernel)) (goodIn_sub (fun _ h => List.mem_cons_of_mem _ (List.mem_append_right _ h)) (by decide +kernel))
set_option maxRecDepth 20000 in
theorem gX7_addResource_X0_putResource : GoodIn wsX7_addResource (wsV RX7 58 RX0 yX0_putResource wsX0_putResource) := goodIn_app (goodIn_of _ (by decide +kernel)) ggX7_addResource_X0_putResource
theorem dX7_addResource_21 : decode cX7_addResource 21 = .ok (.ireturn, 1) := by decide +kernel
set_option maxHeartbeats 4000000 in
set_option maxRecDepth 100000 in
theorem b_X7_addResource {X : VC} {μ : Mem} (k : Int) (a : Int) (b : Int) (hk : k = 99 ∨ k = 108 ∨ k = 113 ∨ k = 115) (ha : 0 ≤ a ∧ a ≤ 20) (hb : 0 ≤ b ∧ b ≤ 999) (hrc : 0 ≤ μ 1 2 ∧ μ 1 2 < 8) (K : vK X cX7_addResource 4 RX7 wsX7_addResource ({ frames := 3, cells := 0, slots := 0, locals := 66 } : Room)) (hret : ∀ (z : Int) (ν : Mem), (fun (z : Int) (ν : Mem) => z = μ 1 2 ∧ RPut μ ν (μ 1 2).toNat k a b) z ν → ∀ n pc k1 k2 lv, k1 ≤ 0 → k2 ≤ 0 → decode cX7_addResource pc = .ok (.ireturn, 1) → vW X n pc k1 k2 lv [.int (iZ z)] ν) : vW X 4 0 0 0 [(0, .ref (vAd X 0)), (1, .int (iZ k)), (2, .int (iZ a)), (3, .int (iZ b))] [] μ := by
  refine v_aload_n 0 K dX7_addResource_0 rfl ?_
  refine v_iload_n 1 K dX7_addResource_1 rfl ?_
  refine v_iload_n 2 K dX7_addResource_2 rfl ?_
  refine v_iload_n 3 K dX7_addResource_3 rfl ?_
  refine v_callVvr (c := 0) (As := [.int (iZ k), .int (iZ a), .int (iZ b)]) (rest := []) K isO_SJ rfl 3 (c_X7_checkNumbers X.1.2.1 K.2.2.2.2.2.2 _ _ _ μ k a b hk ha hb) gX7_addResource_X7_checkNumbers rfl rfl rfl (by decide +kernel) ⟨(Nat.le_of_ble_eq_true rfl), (Nat.le_of_ble_eq_true rfl)⟩ rfl rfl (Nat.le_of_ble_eq_true rfl) dX7_addResource_4 ⟨(Nat.le_of_ble_eq_true rfl), (Nat.le_of_ble_eq_true rfl)⟩ ?_
  refine v_aload_n 0 K dX7_addResource_7 rfl ?_
  refine v_callVvr (c := 0) (As := []) (rest := []) K isO_SJ rfl 0 (c_X7_checkRoomForResource X.1.2.1 K.2.2.2.2.2.2 _ _ _ μ hrc) gX7_addResource_X7_checkRoomForResource rfl rfl rfl (by decide +kernel) ⟨(Nat.le_of_ble_eq_true rfl), (Nat.le_of_ble_eq_true rfl)⟩ rfl rfl (Nat.le_of_ble_eq_true rfl) dX7_addResource_8 ⟨(Nat.le_of_ble_eq_true rfl), (Nat.le_of_ble_eq_true rfl)⟩ ?_
  refine v_aload_n 0 K dX7_addResource_11 rfl ?_
  refine v_get (c := 0) (k := 0) (C := RX7) (T := TX7) (N := 7) (v := .ref (vAd X 1)) K isO_SJ rfl (fun _ h => (List.mem_cons_of_mem _ (List.mem_append_left _ (List.mem_append_left _ (List.mem_append_left _ (List.mem_append_left _ (List.mem_append_left _ (List.mem_append_right _ h)))))))) (by decide) (List.mem_cons_of_mem _ (List.mem_append_left _ (List.mem_append_left _ (List.mem_append_left _ (List.mem_append_left _ (List.mem_append_left _ (List.mem_append_left _ (List.mem_append_left _ (List.mem_of_getElem? (i := 0) rfl))))))))) rfl dX7_addResource_12 rfl ?_
  refine v_iload_n 1 K dX7_addResource_15 rfl ?_
  refine v_iload_n 2 K dX7_addResource_16 rfl ?_
  refine v_iload_n 3 K dX7_addResource_17 rfl ?_
  refine v_callVi (c := 1) (As := [.int (iZ k), .int (iZ a), .int (iZ b)]) (rest := []) K isO_Bd rfl 3 (c_X0_putResource X.1.2.1 K.2.2.2.2.2.2 _ _ _ μ k a b (by omega) ha hrc) gX7_addResource_X0_putResource rfl rfl rfl (by decide +kernel) ⟨(Nat.le_of_ble_eq_true rfl), (Nat.le_of_ble_eq_true rfl)⟩ rfl rfl (Nat.le_of_ble_eq_true rfl) dX7_addResource_18 ⟨(Nat.le_of_ble_eq_true rfl), (Nat.le_of_ble_eq_true rfl)⟩ (fun z18 ν q18 => ?_)
  exact hret _ _ q18 _ _ _ _ _ (Nat.le_of_ble_eq_true rfl) (Nat.le_of_ble_eq_true rfl) dX7_addResource_21
theorem c_X7_addResource (l : Launch) (hl : l.stackTraces = false) (D : va_G) (cy : Nat → ClassId) (ad : Nat → Nat) (μ : Mem) (k : Int) (a : Int) (b : Int) (hk : k = 99 ∨ k = 108 ∨ k = 113 ∨ k = 115) (ha : 0 ≤ a ∧ a ≤ 20) (hb : 0 ≤ b ∧ b ≤ 999) (hrc : 0 ≤ μ 1 2 ∧ μ 1 2 < 8) : cI l yX7_addResource wsX7_addResource ({ frames := 3, cells := 0, slots := 0, locals := 66 } : Room) D cy ad μ [.ref (ad 0), .int (iZ k), .int (iZ a), .int (iZ b)] (fun (z : Int) (ν : Mem) => z = μ 1 2 ∧ RPut μ ν (μ 1 2).toNat k a b) :=
  m_int (av := (fun ad => [.ref (ad 0), .int (iZ k), .int (iZ a), .int (iZ b)])) hl (by decide) rfl rfl (Nat.le_of_ble_eq_true rfl) (fun _ _ _ => rfl) (fun X K hret => b_X7_addResource k a b hk ha hb hrc K hret)
set_option maxHeartbeats 4000000 in
set_option maxRecDepth 100000 in
theorem b_X7_addResourceT {X : VC} {μ : Mem} (k : Int) (a : Int) (b : Int) (hk0 : 0 ≤ k ∧ k ≤ 65535) (hk : k ≠ 99 ∧ k ≠ 108 ∧ k ≠ 113 ∧ k ≠ 115) (K : vK X cX7_addResource 4 RX7 wsX7_addResource ({ frames := 7, cells := 1, slots := 6, locals := 105 } : Room)) (T : vT X μ "java/lang/IllegalArgumentException") : vW X 4 0 0 0 [(0, .ref (vAd X 0)), (1, .int (iZ k)), (2, .int (iZ a)), (3, .int (iZ b))] [] μ := by
  refine v_aload_n 0 K dX7_addResource_0 rfl ?_
  refine v_iload_n 1 K dX7_addResource_1 rfl ?_
  refine v_iload_n 2 K dX7_addResource_2 rfl ?_
  refine v_iload_n 3 K dX7_addResource_3 rfl ?_
  exact v_callVTv (c := 0) (As := [.int (iZ k), .int (iZ a), .int (iZ b)]) (rest := []) K T isO_SJ rfl 3 (c_X7_checkNumbersT X.1.2.1 K.2.2.2.2.2.2 _ _ _ μ k a b hk0 hk) gX7_addResource_X7_checkNumbers rfl rfl rfl (by decide +kernel) ⟨(Nat.le_of_ble_eq_true rfl), (Nat.le_of_ble_eq_true rfl)⟩ rfl rfl (Nat.le_of_ble_eq_true rfl) dX7_addResource_4 ⟨(Nat.le_of_ble_eq_true rfl), (Nat.le_of_ble_eq_true rfl)⟩ (Nat.le_of_ble_eq_true rfl) (Nat.le_of_ble_eq_true rfl)
theorem c_X7_addResourceT (l : Launch) (hl : l.stackTraces = false) (D : va_G) (cy : Nat → ClassId) (ad : Nat → Nat) (μ : Mem) (k : Int) (a : Int) (b : Int) (hk0 : 0 ≤ k ∧ k ≤ 65535) (hk : k ≠ 99 ∧ k ≠ 108 ∧ k ≠ 113 ∧ k ≠ 115) : cTi l yX7_addResource wsX7_addResource ({ frames := 7, cells := 1, slots := 6, locals := 105 } : Room) D cy ad μ [.ref (ad 0), .int (iZ k), .int (iZ a), .int (iZ b)] "java/lang/IllegalArgumentException" :=
  m_thri (av := (fun ad => [.ref (ad 0), .int (iZ k), .int (iZ a), .int (iZ b)])) hl (by decide) rfl rfl (Nat.le_of_ble_eq_true rfl) (fun X K T => b_X7_addResourceT k a b hk0 hk K T)
set_option maxHeartbeats 4000000 in
set_option maxRecDepth 100000 in
theorem b_X7_addResourceT2 {X : VC} {μ : Mem} (a : Int) (b : Int) (ha : 20 < a ∧ a ≤ 1000) (K : vK X cX7_addResource 4 RX7 wsX7_addResource ({ frames := 8, cells := 1, slots := 6, locals := 128 } : Room)) (T : vT X μ "java/lang/IllegalArgumentException") : vW X 4 0 0 0 [(0, .ref (vAd X 0)), (1, .int (iZ 99)), (2, .int (iZ a)), (3, .int (iZ b))] [] μ := by
  refine v_aload_n 0 K dX7_addResource_0 rfl ?_
  refine v_iload_n 1 K dX7_addResource_1 rfl ?_
  refine v_iload_n 2 K dX7_addResource_2 rfl ?_
  refine v_iload_n 3 K dX7_addResource_3 rfl ?_
  exact v_callVTv (c := 0) (As := [.int (iZ 99), .int (iZ a), .int (iZ b)]) (rest := []) K T isO_SJ rfl 3 (c_X7_checkNumbersT2 X.1.2.1 K.2.2.2.2.2.2 _ _ _ μ a b ha) gX7_addResource_X7_checkNumbers rfl rfl rfl (by decide +kernel) ⟨(Nat.le_of_ble_eq_true rfl), (Nat.le_of_ble_eq_true rfl)⟩ rfl rfl (Nat.le_of_ble_eq_true rfl) dX7_addResource_4 ⟨(Nat.le_of_ble_eq_true rfl), (Nat.le_of_ble_eq_true rfl)⟩ (Nat.le_of_ble_eq_true rfl) (Nat.le_of_ble_eq_true rfl)
theorem c_X7_addResourceT2 (l : Launch) (hl : l.stackTraces = false) (D : va_G) (cy : Nat → ClassId) (ad : Nat → Nat) (μ : Mem) (a : Int) (b : Int) (ha : 20 < a ∧ a ≤ 1000) : cTi l yX7_addResource wsX7_addResource ({ frames := 8, cells := 1, slots := 6, locals := 128 } : Room) D cy ad μ [.ref (ad 0), .int (iZ 99), .int (iZ a), .int (iZ b)] "java/lang/IllegalArgumentException" :=
  m_thri (av := (fun ad => [.ref (ad 0), .int (iZ 99), .int (iZ a), .int (iZ b)])) hl (by decide) rfl rfl (Nat.le_of_ble_eq_true rfl) (fun X K T => b_X7_addResourceT2 a b ha K T)
theorem dX7_addPlayer_0 : decode cX7_addPlayer 0 = .ok (.aload_n 0, 1) := by decide +kernel
theorem dX7_addPlayer_1 : decode cX7_addPlayer 1 = .ok (.iload_n 1, 1) := by decide +kernel
theorem dX7_addPlayer_2 : decode cX7_addPlayer 2 = .ok (.iload_n 2, 1) := by decide +kernel
theorem dX7_addPlayer_3 : decode cX7_addPlayer 3 = .ok (.invokevirtual 78, 3) := by decide +kernel
set_option maxRecDepth 20000 in
theorem ggX7_addPlayer_X7_checkBody : GoodIn wsX7_addPlayer wsX7_checkBody := goodIn_ca (goodIn_r _ [6, 7, 8, 9, 5, 10, 11, 12] (by decide +kernel) (by decide +kernel)) (goodIn_sub (fun _ h => List.mem_cons_of_mem _ (List.mem_append_left _ (List.mem_append_right _ h))) (by decide +kernel))
set_option maxRecDepth 20000 in
theorem gX7_addPlayer_X7_checkBody : GoodIn wsX7_addPlayer (wsV RX7 78 RX7 yX7_checkBody wsX7_checkBody) := goodIn_app (goodIn_of _ (by decide +kernel)) ggX7_addPlayer_X7_checkBody
theorem dX7_addPlayer_6 : decode cX7_addPlayer 6 = .ok (.aload_n 0, 1) := by decide +kernel
theorem dX7_addPlayer_7 : decode cX7_addPlayer 7 = .ok (.invokevirtual 81, 3) := by decide +kernel
set_option maxRecDepth 20000 in
theorem ggX7_addPlayer_X7_checkRoomForPlayer : GoodIn wsX7_addPlayer wsX7_checkRoomForPlayer := goodIn_ca (goodIn_r _ [16, 17, 18, 1, 19, 29, 30, 31, 32, 33, 34, 35, 36, 37, 38, 39] (by decide +kernel) (by decide +kernel)) (goodIn_sub (fun _ h => List.mem_cons_of_mem _ (List.mem_append_right _ h)) (by decide +kernel))
set_option maxRecDepth 20000 in
theorem gX7_addPlayer_X7_checkRoomForPlayer : GoodIn wsX7_addPlayer (wsV RX7 81 RX7 yX7_checkRoomForPlayer wsX7_checkRoomForPlayer) := goodIn_app (goodIn_of _ (by decide +kernel)) ggX7_addPlayer_X7_checkRoomForPlayer
theorem dX7_addPlayer_10 : decode cX7_addPlayer 10 = .ok (.aload_n 0, 1) := by decide +kernel
theorem dX7_addPlayer_11 : decode cX7_addPlayer 11 = .ok (.getfield 10, 3) := by decide +kernel
theorem dX7_addPlayer_14 : decode cX7_addPlayer 14 = .ok (.iload_n 1, 1) := by decide +kernel
theorem dX7_addPlayer_15 : decode cX7_addPlayer 15 = .ok (.iload_n 2, 1) := by decide +kernel
theorem dX7_addPlayer_16 : decode cX7_addPlayer 16 = .ok (.invokevirtual 84, 3) := by decide +kernel
set_option maxRecDepth 20000 in
theorem ggX7_addPlayer_X0_putPlayer : GoodIn wsX7_addPlayer wsX0_putPlayer := goodIn_r _ [24, 25, 26, 27, 28, 36, 37, 38, 39, 40, 41, 42, 43, 44, 45] (by decide +kernel) (by decide +kernel)
set_option maxRecDepth 20000 in
theorem gX7_addPlayer_X0_putPlayer : GoodIn wsX7_addPlayer (wsV RX7 84 RX0 yX0_putPlayer wsX0_putPlayer) := goodIn_app (goodIn_of _ (by decide +kernel)) ggX7_addPlayer_X0_putPlayer
theorem dX7_addPlayer_19 : decode cX7_addPlayer 19 = .ok (.ireturn, 1) := by decide +kernel
set_option maxHeartbeats 4000000 in
set_option maxRecDepth 100000 in
theorem b_X7_addPlayer {X : VC} {μ : Mem} (w : Int) (m : Int) (hw : 1 ≤ w ∧ w ≤ 3) (hm : 0 ≤ m ∧ m ≤ 9) (hpc : 0 ≤ μ 1 3 ∧ μ 1 3 < 6) (K : vK X cX7_addPlayer 3 RX7 wsX7_addPlayer ({ frames := 2, cells := 0, slots := 0, locals := 45 } : Room)) (hret : ∀ (z : Int) (ν : Mem), (fun (z : Int) (ν : Mem) => z = μ 1 3 ∧ PPut μ ν (μ 1 3).toNat w m) z ν → ∀ n pc k1 k2 lv, k1 ≤ 0 → k2 ≤ 0 → decode cX7_addPlayer pc = .ok (.ireturn, 1) → vW X n pc k1 k2 lv [.int (iZ z)] ν) : vW X 3 0 0 0 [(0, .ref (vAd X 0)), (1, .int (iZ w)), (2, .int (iZ m))] [] μ := by
  refine v_aload_n 0 K dX7_addPlayer_0 rfl ?_
  refine v_iload_n 1 K dX7_addPlayer_1 rfl ?_
  refine v_iload_n 2 K dX7_addPlayer_2 rfl ?_
  refine v_callVvr (c := 0) (As := [.int (iZ w), .int (iZ m)]) (rest := []) K isO_SJ rfl 2 (c_X7_checkBody X.1.2.1 K.2.2.2.2.2.2 _ _ _ μ w m hw hm) gX7_addPlayer_X7_checkBody rfl rfl rfl (by decide +kernel) ⟨(Nat.le_of_ble_eq_true rfl), (Nat.le_of_ble_eq_true rfl)⟩ rfl rfl (Nat.le_of_ble_eq_true rfl) dX7_addPlayer_3 ⟨(Nat.le_of_ble_eq_true rfl), (Nat.le_of_ble_eq_true rfl)⟩ ?_
  refine v_aload_n 0 K dX7_addPlayer_6 rfl ?_
  refine v_callVvr (c := 0) (As := []) (rest := []) K isO_SJ rfl 0 (c_X7_checkRoomForPlayer X.1.2.1 K.2.2.2.2.2.2 _ _ _ μ hpc) gX7_addPlayer_X7_checkRoomForPlayer rfl rfl rfl (by decide +kernel) ⟨(Nat.le_of_ble_eq_true rfl), (Nat.le_of_ble_eq_true rfl)⟩ rfl rfl (Nat.le_of_ble_eq_true rfl) dX7_addPlayer_7 ⟨(Nat.le_of_ble_eq_true rfl), (Nat.le_of_ble_eq_true rfl)⟩ ?_
  refine v_aload_n 0 K dX7_addPlayer_10 rfl ?_
  refine v_get (c := 0) (k := 0) (C := RX7) (T := TX7) (N := 7) (v := .ref (vAd X 1)) K isO_SJ rfl (fun _ h => (List.mem_cons_of_mem _ (List.mem_append_left _ (List.mem_append_left _ (List.mem_append_left _ (List.mem_append_left _ (List.mem_append_right _ h))))))) (by decide) (List.mem_cons_of_mem _ (List.mem_append_left _ (List.mem_append_left _ (List.mem_append_left _ (List.mem_append_left _ (List.mem_append_left _ (List.mem_append_left _ (List.mem_of_getElem? (i := 0) rfl)))))))) rfl dX7_addPlayer_11 rfl ?_
  refine v_iload_n 1 K dX7_addPlayer_14 rfl ?_
  refine v_iload_n 2 K dX7_addPlayer_15 rfl ?_
  refine v_callVi (c := 1) (As := [.int (iZ w), .int (iZ m)]) (rest := []) K isO_Bd rfl 2 (c_X0_putPlayer X.1.2.1 K.2.2.2.2.2.2 _ _ _ μ w m hpc) gX7_addPlayer_X0_putPlayer rfl rfl rfl (by decide +kernel) ⟨(Nat.le_of_ble_eq_true rfl), (Nat.le_of_ble_eq_true rfl)⟩ rfl rfl (Nat.le_of_ble_eq_true rfl) dX7_addPlayer_16 ⟨(Nat.le_of_ble_eq_true rfl), (Nat.le_of_ble_eq_true rfl)⟩ (fun z16 ν q16 => ?_)
  exact hret _ _ q16 _ _ _ _ _ (Nat.le_of_ble_eq_true rfl) (Nat.le_of_ble_eq_true rfl) dX7_addPlayer_19
theorem c_X7_addPlayer (l : Launch) (hl : l.stackTraces = false) (D : va_G) (cy : Nat → ClassId) (ad : Nat → Nat) (μ : Mem) (w : Int) (m : Int) (hw : 1 ≤ w ∧ w ≤ 3) (hm : 0 ≤ m ∧ m ≤ 9) (hpc : 0 ≤ μ 1 3 ∧ μ 1 3 < 6) : cI l yX7_addPlayer wsX7_addPlayer ({ frames := 2, cells := 0, slots := 0, locals := 45 } : Room) D cy ad μ [.ref (ad 0), .int (iZ w), .int (iZ m)] (fun (z : Int) (ν : Mem) => z = μ 1 3 ∧ PPut μ ν (μ 1 3).toNat w m) :=
  m_int (av := (fun ad => [.ref (ad 0), .int (iZ w), .int (iZ m)])) hl (by decide) rfl rfl (Nat.le_of_ble_eq_true rfl) (fun _ _ _ => rfl) (fun X K hret => b_X7_addPlayer w m hw hm hpc K hret)
set_option maxHeartbeats 4000000 in
set_option maxRecDepth 100000 in
theorem b_X7_addPlayerT {X : VC} {μ : Mem} (w : Int) (m : Int) (hw : 3 < w ∧ w ≤ 1000) (K : vK X cX7_addPlayer 3 RX7 wsX7_addPlayer ({ frames := 8, cells := 1, slots := 6, locals := 127 } : Room)) (T : vT X μ "java/lang/IllegalArgumentException") : vW X 3 0 0 0 [(0, .ref (vAd X 0)), (1, .int (iZ w)), (2, .int (iZ m))] [] μ := by
  refine v_aload_n 0 K dX7_addPlayer_0 rfl ?_
  refine v_iload_n 1 K dX7_addPlayer_1 rfl ?_
  refine v_iload_n 2 K dX7_addPlayer_2 rfl ?_
  exact v_callVTv (c := 0) (As := [.int (iZ w), .int (iZ m)]) (rest := []) K T isO_SJ rfl 2 (c_X7_checkBodyT X.1.2.1 K.2.2.2.2.2.2 _ _ _ μ w m hw) gX7_addPlayer_X7_checkBody rfl rfl rfl (by decide +kernel) ⟨(Nat.le_of_ble_eq_true rfl), (Nat.le_of_ble_eq_true rfl)⟩ rfl rfl (Nat.le_of_ble_eq_true rfl) dX7_addPlayer_3 ⟨(Nat.le_of_ble_eq_true rfl), (Nat.le_of_ble_eq_true rfl)⟩ (Nat.le_of_ble_eq_true rfl) (Nat.le_of_ble_eq_true rfl)
theorem c_X7_addPlayerT (l : Launch) (hl : l.stackTraces = false) (D : va_G) (cy : Nat → ClassId) (ad : Nat → Nat) (μ : Mem) (w : Int) (m : Int) (hw : 3 < w ∧ w ≤ 1000) : cTi l yX7_addPlayer wsX7_addPlayer ({ frames := 8, cells := 1, slots := 6, locals := 127 } : Room) D cy ad μ [.ref (ad 0), .int (iZ w), .int (iZ m)] "java/lang/IllegalArgumentException" :=
  m_thri (av := (fun ad => [.ref (ad 0), .int (iZ w), .int (iZ m)])) hl (by decide) rfl rfl (Nat.le_of_ble_eq_true rfl) (fun X K T => b_X7_addPlayerT w m hw K T)
theorem dX7_addWay_0 : decode cX7_addWay 0 = .ok (.aload_n 0, 1) := by decide +kernel
theorem dX7_addWay_1 : decode cX7_addWay 1 = .ok (.iload_n 1, 1) := by decide +kernel
theorem dX7_addWay_2 : decode cX7_addWay 2 = .ok (.invokevirtual 88, 3) := by decide +kernel
set_option maxRecDepth 20000 in
theorem ggX7_addWay_X7_checkPlayer : GoodIn wsX7_addWay wsX7_checkPlayer := goodIn_ca (goodIn_r _ [17, 18, 19, 7, 20, 50, 51, 52, 53, 54, 55, 56, 57, 58, 59, 60] (by decide +kernel) (by decide +kernel)) (goodIn_sub (fun _ h => List.mem_cons_of_mem _ (List.mem_append_left _ (List.mem_append_right _ h))) (by decide +kernel))
set_option maxRecDepth 20000 in
theorem gX7_addWay_X7_checkPlayer : GoodIn wsX7_addWay (wsV RX7 88 RX7 yX7_checkPlayer wsX7_checkPlayer) := goodIn_app (goodIn_of _ (by decide +kernel)) ggX7_addWay_X7_checkPlayer
theorem dX7_addWay_5 : decode cX7_addWay 5 = .ok (.iload_n 2, 1) := by decide +kernel
theorem dX7_addWay_6 : decode cX7_addWay 6 = .ok (.iconst 1, 1) := by decide +kernel
theorem dX7_addWay_7 : decode cX7_addWay 7 = .ok (.if_icmp .lt 16, 3) := by decide +kernel
theorem dX7_addWay_10 : decode cX7_addWay 10 = .ok (.iload_n 2, 1) := by decide +kernel
theorem dX7_addWay_11 : decode cX7_addWay 11 = .ok (.iconst 1, 1) := by decide +kernel
theorem dX7_addWay_12 : decode cX7_addWay 12 = .ok (.aload_n 0, 1) := by decide +kernel
theorem dX7_addWay_13 : decode cX7_addWay 13 = .ok (.getfield 10, 3) := by decide +kernel
theorem dX7_addWay_16 : decode cX7_addWay 16 = .ok (.getfield 92, 3) := by decide +kernel
theorem dX7_addWay_19 : decode cX7_addWay 19 = .ok (.ishl, 1) := by decide +kernel
theorem dX7_addWay_20 : decode cX7_addWay 20 = .ok (.if_icmp .lt 13, 3) := by decide +kernel
theorem dX7_addWay_33 : decode cX7_addWay 33 = .ok (.iload_n 2, 1) := by decide +kernel
theorem dX7_addWay_34 : decode cX7_addWay 34 = .ok (.aload_n 0, 1) := by decide +kernel
theorem dX7_addWay_35 : decode cX7_addWay 35 = .ok (.getfield 19, 3) := by decide +kernel
theorem dX7_addWay_38 : decode cX7_addWay 38 = .ok (.getfield 102, 3) := by decide +kernel
theorem dX7_addWay_41 : decode cX7_addWay 41 = .ok (.iand, 1) := by decide +kernel
theorem dX7_addWay_42 : decode cX7_addWay 42 = .ok (.ifCond .ne 19, 3) := by decide +kernel
theorem dX7_addWay_45 : decode cX7_addWay 45 = .ok (.aload_n 0, 1) := by decide +kernel
theorem dX7_addWay_46 : decode cX7_addWay 46 = .ok (.getfield 10, 3) := by decide +kernel
theorem dX7_addWay_49 : decode cX7_addWay 49 = .ok (.getfield 105, 3) := by decide +kernel
theorem dX7_addWay_52 : decode cX7_addWay 52 = .ok (.iload_n 1, 1) := by decide +kernel
theorem dX7_addWay_53 : decode cX7_addWay 53 = .ok (.aaload, 1) := by decide +kernel
theorem dX7_addWay_54 : decode cX7_addWay 54 = .ok (.iload_n 2, 1) := by decide +kernel
theorem dX7_addWay_55 : decode cX7_addWay 55 = .ok (.invokevirtual 109, 3) := by decide +kernel
set_option maxRecDepth 20000 in
theorem ggX7_addWay_X4_owns : GoodIn wsX7_addWay wsX4_owns := goodIn_ca (goodIn_r _ [25, 26, 27, 64, 65, 66, 67, 68, 69] (by decide +kernel) (by decide +kernel)) (goodIn_sub (fun _ h => List.mem_cons_of_mem _ (List.mem_append_right _ h)) (by decide +kernel))
set_option maxRecDepth 20000 in
theorem gX7_addWay_X4_owns : GoodIn wsX7_addWay (wsV RX7 109 RX4 yX4_owns wsX4_owns) := goodIn_app (goodIn_of _ (by decide +kernel)) ggX7_addWay_X4_owns
theorem dX7_addWay_58 : decode cX7_addWay 58 = .ok (.ifCond .eq 13, 3) := by decide +kernel
theorem dX7_addWay_71 : decode cX7_addWay 71 = .ok (.aload_n 0, 1) := by decide +kernel
theorem dX7_addWay_72 : decode cX7_addWay 72 = .ok (.getfield 10, 3) := by decide +kernel
theorem dX7_addWay_75 : decode cX7_addWay 75 = .ok (.getfield 105, 3) := by decide +kernel
theorem dX7_addWay_78 : decode cX7_addWay 78 = .ok (.iload_n 1, 1) := by decide +kernel
theorem dX7_addWay_79 : decode cX7_addWay 79 = .ok (.aaload, 1) := by decide +kernel
theorem dX7_addWay_80 : decode cX7_addWay 80 = .ok (.getfield 120, 3) := by decide +kernel
theorem dX7_addWay_83 : decode cX7_addWay 83 = .ok (.iconst 5, 1) := by decide +kernel
theorem dX7_addWay_84 : decode cX7_addWay 84 = .ok (.if_icmp .lt 13, 3) := by decide +kernel
theorem dX7_addWay_97 : decode cX7_addWay 97 = .ok (.aload_n 0, 1) := by decide +kernel
theorem dX7_addWay_98 : decode cX7_addWay 98 = .ok (.getfield 10, 3) := by decide +kernel
theorem dX7_addWay_101 : decode cX7_addWay 101 = .ok (.aload_n 0, 1) := by decide +kernel
theorem dX7_addWay_102 : decode cX7_addWay 102 = .ok (.getfield 19, 3) := by decide +kernel
theorem dX7_addWay_105 : decode cX7_addWay 105 = .ok (.iload_n 1, 1) := by decide +kernel
theorem dX7_addWay_106 : decode cX7_addWay 106 = .ok (.iload_n 2, 1) := by decide +kernel
theorem dX7_addWay_107 : decode cX7_addWay 107 = .ok (.invokevirtual 128, 3) := by decide +kernel
set_option maxRecDepth 20000 in
theorem ggX7_addWay_X0_putWay : GoodIn wsX7_addWay wsX0_putWay := goodIn_ca (goodIn_r _ [32, 33, 34, 35, 36, 37, 38, 31, 39, 40, 41, 42, 43, 44, 45, 46, 24, 47, 26, 27, 48, 16, 49, 57, 58, 59, 60, 64, 65, 66, 67, 68, 69, 61, 62, 63] (by decide +kernel) (by decide +kernel)) (goodIn_sub (fun _ h => List.mem_cons_of_mem _ (List.mem_append_right _ h)) (by decide +kernel))
set_option maxRecDepth 20000 in
theorem gX7_addWay_X0_putWay : GoodIn wsX7_addWay (wsV RX7 128 RX0 yX0_putWay wsX0_putWay) := goodIn_app (goodIn_of _ (by decide +kernel)) ggX7_addWay_X0_putWay
theorem dX7_addWay_110 : decode cX7_addWay 110 = .ok (.ireturn, 1) := by decide +kernel
set_option maxHeartbeats 4000000 in
set_option maxRecDepth 100000 in
theorem b_X7_addWay {X : VC} {μ : Mem} (p : Nat) (b : Int) (hW : WF μ) (hB : PB μ 0) (hp : p < pcn μ) (hb : 1 ≤ b ∧ b < ((2 ^ rc μ : Nat) : Int)) (hn : μ (37 + p) 3 < 5) (hno : ∀ k : Nat, (k : Int) < μ (37 + p) 3 → μ (43 + p) k ≠ b) (K : vK X cX7_addWay 3 RX7 wsX7_addWay ({ frames := 3, cells := 0, slots := 0, locals := 73 } : Room)) (hret : ∀ (z : Int) (ν : Mem), (fun (z : Int) (ν : Mem) => z = μ (37 + p) 3 ∧ (∃ ν2, WPut μ ν2 p (μ (37 + p) 3).toNat b ∧ ((μ (37 + p) 3 = 0 ∧ TK ν2 ν 0 p 0) ∨ (μ (37 + p) 3 ≠ 0 ∧ ν = ν2)))) z ν → ∀ n pc k1 k2 lv, k1 ≤ 0 → k2 ≤ 0 → decode cX7_addWay pc = .ok (.ireturn, 1) → vW X n pc k1 k2 lv [.int (iZ z)] ν) : vW X 3 0 0 0 [(0, .ref (vAd X 0)), (1, .int (iZ (p : Int))), (2, .int (iZ b))] [] μ := by
  have hpc := hW.pc6
  have hpl := hW.pl (p := p) (by omega)
  have hrc := hW.rc8
  have h28 := p2_8 hrc.1
  have hch := hB.1 p (by omega)
  refine v_aload_n 0 K dX7_addWay_0 rfl ?_
  refine v_iload_n 1 K dX7_addWay_1 rfl ?_
  refine v_callVvr (c := 0) (As := [.int (iZ (p : Int))]) (rest := []) K isO_SJ rfl 1 (c_X7_checkPlayer X.1.2.1 K.2.2.2.2.2.2 _ _ _ μ (p : Int) (by omega) (by omega)) gX7_addWay_X7_checkPlayer rfl rfl rfl (by decide +kernel) ⟨(Nat.le_of_ble_eq_true rfl), (Nat.le_of_ble_eq_true rfl)⟩ rfl rfl (Nat.le_of_ble_eq_true rfl) dX7_addWay_2 ⟨(Nat.le_of_ble_eq_true rfl), (Nat.le_of_ble_eq_true rfl)⟩ ?_
  refine v_iload_n 2 K dX7_addWay_5 rfl ?_
  refine v_iconst K dX7_addWay_6 ?_
  refine v_icmp_lt 23 K dX7_addWay_7 (by decide) (by omega) (by decide) (fun c7 => (by exfalso; omega)) (fun c7 => ?_)
  refine v_iload_n 2 K dX7_addWay_10 rfl ?_
  refine v_iconst K dX7_addWay_11 ?_
  refine v_aload_n 0 K dX7_addWay_12 rfl ?_
  refine v_get (c := 0) (k := 0) (C := RX7) (T := TX7) (N := 7) (v := .ref (vAd X 1)) K isO_SJ rfl (fun _ h => (List.mem_cons_of_mem _ (List.mem_append_left _ (List.mem_append_left _ (List.mem_append_left _ (List.mem_append_left _ (List.mem_append_left _ (List.mem_append_left _ (List.mem_append_left _ (List.mem_append_left _ (List.mem_append_right _ h))))))))))) (by decide) (List.mem_cons_of_mem _ (List.mem_append_left _ (List.mem_append_left _ (List.mem_append_left _ (List.mem_append_left _ (List.mem_append_left _ (List.mem_append_left _ (List.mem_append_left _ (List.mem_append_left _ (List.mem_append_left _ (List.mem_append_left _ (List.mem_of_getElem? (i := 6) rfl)))))))))))) rfl dX7_addWay_13 rfl ?_
  refine v_get (c := 1) (k := 2) (C := RX0) (T := TX0) (N := 4) (v := .int (iZ (μ 1 2))) K isO_Bd rfl (fun _ h => (List.mem_cons_of_mem _ (List.mem_append_left _ (List.mem_append_left _ (List.mem_append_left _ (List.mem_append_left _ (List.mem_append_left _ (List.mem_append_left _ (List.mem_append_left _ (List.mem_append_right _ h)))))))))) (by decide) (List.mem_cons_of_mem _ (List.mem_append_left _ (List.mem_append_left _ (List.mem_append_left _ (List.mem_append_left _ (List.mem_append_left _ (List.mem_append_left _ (List.mem_append_left _ (List.mem_append_left _ (List.mem_append_left _ (List.mem_append_left _ (List.mem_of_getElem? (i := 7) rfl)))))))))))) rfl dX7_addWay_16 rfl ?_
  refine v_ishl (z := ((2 ^ rc μ : Nat) : Int)) (by rw [hrc.2]; exact iZ_shl1 _ (by omega)) K dX7_addWay_19 ?_
  refine v_icmp_lt 33 K dX7_addWay_20 (by decide) (by omega) (by omega) (fun c20 => ?_) (fun c20 => (by exfalso; omega))
  refine v_iload_n 2 K dX7_addWay_33 rfl ?_
  refine v_aload_n 0 K dX7_addWay_34 rfl ?_
  refine v_get (c := 0) (k := 1) (C := RX7) (T := TX7) (N := 7) (v := .ref (vAd X (2 + 0))) K isO_SJ rfl (fun _ h => (List.mem_cons_of_mem _ (List.mem_append_left _ (List.mem_append_left _ (List.mem_append_left _ (List.mem_append_left _ (List.mem_append_left _ (List.mem_append_left _ (List.mem_append_left _ (List.mem_append_left _ (List.mem_append_right _ h))))))))))) (by decide) (List.mem_cons_of_mem _ (List.mem_append_left _ (List.mem_append_left _ (List.mem_append_left _ (List.mem_append_left _ (List.mem_append_left _ (List.mem_append_left _ (List.mem_append_left _ (List.mem_append_left _ (List.mem_append_left _ (List.mem_append_left _ (List.mem_of_getElem? (i := 8) rfl)))))))))))) rfl dX7_addWay_35 rfl ?_
  refine v_get (c := (2 + 0)) (k := 2) (C := RX3) (T := TX3) (N := 3) (v := .int (iZ (μ (2 + 0) 2))) K (isO_Pl (y := 0) (by omega)) rfl (fun _ h => (List.mem_cons_of_mem _ (List.mem_append_left _ (List.mem_append_left _ (List.mem_append_left _ (List.mem_append_left _ (List.mem_append_left _ (List.mem_append_left _ (List.mem_append_right _ h))))))))) (by decide) (List.mem_cons_of_mem _ (List.mem_append_left _ (List.mem_append_left _ (List.mem_append_left _ (List.mem_append_left _ (List.mem_append_left _ (List.mem_append_left _ (List.mem_append_left _ (List.mem_append_left _ (List.mem_append_left _ (List.mem_append_left _ (List.mem_of_getElem? (i := 9) rfl)))))))))))) rfl dX7_addWay_38 rfl ?_
  refine v_top (b := 0) (by rw [hB.2.2]) ?_
  refine v_iand (z := 0) (iZ_and0 _) K dX7_addWay_41 ?_
  refine v_if_ne 61 K dX7_addWay_42 (by decide) (by decide) (fun c42 => (by exfalso; omega)) (fun c42 => ?_)
  refine v_aload_n 0 K dX7_addWay_45 rfl ?_
  refine v_get (c := 0) (k := 0) (C := RX7) (T := TX7) (N := 7) (v := .ref (vAd X 1)) K isO_SJ rfl (fun _ h => (List.mem_cons_of_mem _ (List.mem_append_left _ (List.mem_append_left _ (List.mem_append_left _ (List.mem_append_left _ (List.mem_append_left _ (List.mem_append_left _ (List.mem_append_left _ (List.mem_append_left _ (List.mem_append_right _ h))))))))))) (by decide) (List.mem_cons_of_mem _ (List.mem_append_left _ (List.mem_append_left _ (List.mem_append_left _ (List.mem_append_left _ (List.mem_append_left _ (List.mem_append_left _ (List.mem_append_left _ (List.mem_append_left _ (List.mem_append_left _ (List.mem_append_left _ (List.mem_of_getElem? (i := 6) rfl)))))))))))) rfl dX7_addWay_46 rfl ?_
  refine v_get (c := 1) (k := 1) (C := RX0) (T := TX0) (N := 4) (v := .ref (vAd X 20)) K isO_Bd rfl (fun _ h => (List.mem_cons_of_mem _ (List.mem_append_left _ (List.mem_append_left _ (List.mem_append_left _ (List.mem_append_left _ (List.mem_append_left _ (List.mem_append_left _ (List.mem_append_left _ (List.mem_append_right _ h)))))))))) (by decide) (List.mem_cons_of_mem _ (List.mem_append_left _ (List.mem_append_left _ (List.mem_append_left _ (List.mem_append_left _ (List.mem_append_left _ (List.mem_append_left _ (List.mem_append_left _ (List.mem_append_left _ (List.mem_append_left _ (List.mem_append_left _ (List.mem_of_getElem? (i := 10) rfl)))))))))))) rfl dX7_addWay_49 rfl ?_
  refine v_iload_n 1 K dX7_addWay_52 rfl ?_
  refine v_aald (c := 20) p K isQ_Py rfl rfl (by omega) dX7_addWay_53 ?_
  refine v_iload_n 2 K dX7_addWay_54 rfl ?_
  refine v_callVis (c := (37 + p)) (As := [.int (iZ b)]) (rest := []) K (isO_Py (p := p) (by omega)) rfl 1 (c_X4_owns X.1.2.1 K.2.2.2.2.2.2 _ _ _ μ p b (by omega) (by omega) hW) gX7_addWay_X4_owns rfl rfl rfl (by decide +kernel) ⟨(Nat.le_of_ble_eq_true rfl), (Nat.le_of_ble_eq_true rfl)⟩ rfl rfl (Nat.le_of_ble_eq_true rfl) dX7_addWay_55 ⟨(Nat.le_of_ble_eq_true rfl), (Nat.le_of_ble_eq_true rfl)⟩ (fun z55 q55 => ?_)
  refine v_if_eq 71 K dX7_addWay_58 (by decide) (by have := q55; omega) (fun c58 => ?_) (fun c58 => (by exfalso; rcases q55 with q | q; omega; obtain ⟨-, k, hk1, hk2⟩ := q; exact hno k hk1 hk2))
  refine v_aload_n 0 K dX7_addWay_71 rfl ?_
  refine v_get (c := 0) (k := 0) (C := RX7) (T := TX7) (N := 7) (v := .ref (vAd X 1)) K isO_SJ rfl (fun _ h => (List.mem_cons_of_mem _ (List.mem_append_left _ (List.mem_append_left _ (List.mem_append_left _ (List.mem_append_left _ (List.mem_append_left _ (List.mem_append_left _ (List.mem_append_left _ (List.mem_append_left _ (List.mem_append_right _ h))))))))))) (by decide) (List.mem_cons_of_mem _ (List.mem_append_left _ (List.mem_append_left _ (List.mem_append_left _ (List.mem_append_left _ (List.mem_append_left _ (List.mem_append_left _ (List.mem_append_left _ (List.mem_append_left _ (List.mem_append_left _ (List.mem_append_left _ (List.mem_of_getElem? (i := 6) rfl)))))))))))) rfl dX7_addWay_72 rfl ?_
  refine v_get (c := 1) (k := 1) (C := RX0) (T := TX0) (N := 4) (v := .ref (vAd X 20)) K isO_Bd rfl (fun _ h => (List.mem_cons_of_mem _ (List.mem_append_left _ (List.mem_append_left _ (List.mem_append_left _ (List.mem_append_left _ (List.mem_append_left _ (List.mem_append_left _ (List.mem_append_left _ (List.mem_append_right _ h)))))))))) (by decide) (List.mem_cons_of_mem _ (List.mem_append_left _ (List.mem_append_left _ (List.mem_append_left _ (List.mem_append_left _ (List.mem_append_left _ (List.mem_append_left _ (List.mem_append_left _ (List.mem_append_left _ (List.mem_append_left _ (List.mem_append_left _ (List.mem_of_getElem? (i := 10) rfl)))))))))))) rfl dX7_addWay_75 rfl ?_
  refine v_iload_n 1 K dX7_addWay_78 rfl ?_
  refine v_aald (c := 20) p K isQ_Py rfl rfl (by omega) dX7_addWay_79 ?_
  refine v_get (c := (37 + p)) (k := 3) (C := RX4) (T := TX4) (N := 6) (v := .int (iZ (μ (37 + p) 3))) K (isO_Py (p := p) (by omega)) rfl (fun _ h => (List.mem_cons_of_mem _ (List.mem_append_left _ (List.mem_append_left _ (List.mem_append_left _ (List.mem_append_left _ (List.mem_append_left _ (List.mem_append_right _ h)))))))) (by decide) (List.mem_cons_of_mem _ (List.mem_append_left _ (List.mem_append_left _ (List.mem_append_left _ (List.mem_append_left _ (List.mem_append_left _ (List.mem_append_left _ (List.mem_append_left _ (List.mem_append_left _ (List.mem_append_left _ (List.mem_append_left _ (List.mem_of_getElem? (i := 11) rfl)))))))))))) rfl dX7_addWay_80 rfl ?_
  refine v_iconst K dX7_addWay_83 ?_
  refine v_icmp_lt 97 K dX7_addWay_84 (by decide) (by omega) (by decide) (fun c84 => ?_) (fun c84 => (by exfalso; omega))
  refine v_aload_n 0 K dX7_addWay_97 rfl ?_
  refine v_get (c := 0) (k := 0) (C := RX7) (T := TX7) (N := 7) (v := .ref (vAd X 1)) K isO_SJ rfl (fun _ h => (List.mem_cons_of_mem _ (List.mem_append_left _ (List.mem_append_left _ (List.mem_append_left _ (List.mem_append_left _ (List.mem_append_left _ (List.mem_append_left _ (List.mem_append_left _ (List.mem_append_left _ (List.mem_append_right _ h))))))))))) (by decide) (List.mem_cons_of_mem _ (List.mem_append_left _ (List.mem_append_left _ (List.mem_append_left _ (List.mem_append_left _ (List.mem_append_left _ (List.mem_append_left _ (List.mem_append_left _ (List.mem_append_left _ (List.mem_append_left _ (List.mem_append_left _ (List.mem_of_getElem? (i := 6) rfl)))))))))))) rfl dX7_addWay_98 rfl ?_
  refine v_aload_n 0 K dX7_addWay_101 rfl ?_
  refine v_get (c := 0) (k := 1) (C := RX7) (T := TX7) (N := 7) (v := .ref (vAd X (2 + 0))) K isO_SJ rfl (fun _ h => (List.mem_cons_of_mem _ (List.mem_append_left _ (List.mem_append_left _ (List.mem_append_left _ (List.mem_append_left _ (List.mem_append_left _ (List.mem_append_left _ (List.mem_append_left _ (List.mem_append_left _ (List.mem_append_right _ h))))))))))) (by decide) (List.mem_cons_of_mem _ (List.mem_append_left _ (List.mem_append_left _ (List.mem_append_left _ (List.mem_append_left _ (List.mem_append_left _ (List.mem_append_left _ (List.mem_append_left _ (List.mem_append_left _ (List.mem_append_left _ (List.mem_append_left _ (List.mem_of_getElem? (i := 8) rfl)))))))))))) rfl dX7_addWay_102 rfl ?_
  refine v_iload_n 1 K dX7_addWay_105 rfl ?_
  refine v_iload_n 2 K dX7_addWay_106 rfl ?_
  refine v_callVi (c := 1) (As := [.ref (vAd X (2 + 0)), .int (iZ (p : Int)), .int (iZ b)]) (rest := []) K isO_Bd rfl 3 (c_X0_putWay X.1.2.1 K.2.2.2.2.2.2 _ _ _ μ 0 p b (by omega) (by omega) hW (by omega) hn (by omega)) gX7_addWay_X0_putWay rfl rfl rfl (by decide +kernel) ⟨(Nat.le_of_ble_eq_true rfl), (Nat.le_of_ble_eq_true rfl)⟩ rfl rfl (Nat.le_of_ble_eq_true rfl) dX7_addWay_107 ⟨(Nat.le_of_ble_eq_true rfl), (Nat.le_of_ble_eq_true rfl)⟩ (fun z107 ν q107 => ?_)
  exact hret _ _ q107 _ _ _ _ _ (Nat.le_of_ble_eq_true rfl) (Nat.le_of_ble_eq_true rfl) dX7_addWay_110
theorem c_X7_addWay (l : Launch) (hl : l.stackTraces = false) (D : va_G) (cy : Nat → ClassId) (ad : Nat → Nat) (μ : Mem) (p : Nat) (b : Int) (hW : WF μ) (hB : PB μ 0) (hp : p < pcn μ) (hb : 1 ≤ b ∧ b < ((2 ^ rc μ : Nat) : Int)) (hn : μ (37 + p) 3 < 5) (hno : ∀ k : Nat, (k : Int) < μ (37 + p) 3 → μ (43 + p) k ≠ b) : cI l yX7_addWay wsX7_addWay ({ frames := 3, cells := 0, slots := 0, locals := 73 } : Room) D cy ad μ [.ref (ad 0), .int (iZ (p : Int)), .int (iZ b)] (fun (z : Int) (ν : Mem) => z = μ (37 + p) 3 ∧ (∃ ν2, WPut μ ν2 p (μ (37 + p) 3).toNat b ∧ ((μ (37 + p) 3 = 0 ∧ TK ν2 ν 0 p 0) ∨ (μ (37 + p) 3 ≠ 0 ∧ ν = ν2)))) :=
  m_int (av := (fun ad => [.ref (ad 0), .int (iZ (p : Int)), .int (iZ b)])) hl (by decide) rfl rfl (Nat.le_of_ble_eq_true rfl) (fun _ _ _ => rfl) (fun X K hret => b_X7_addWay p b hW hB hp hb hn hno K hret)
theorem dX7_addWay_23 : decode cX7_addWay 23 = .ok (.new 95, 3) := by decide +kernel
theorem dX7_addWay_26 : decode cX7_addWay 26 = .ok (.dup, 1) := by decide +kernel
theorem dX7_addWay_27 : decode cX7_addWay 27 = .ok (.ldc 97, 2) := by decide +kernel
theorem dX7_addWay_29 : decode cX7_addWay 29 = .ok (.invokespecial 99, 3) := by decide +kernel
theorem dX7_addWay_32 : decode cX7_addWay 32 = .ok (.athrow, 1) := by decide +kernel
set_option maxHeartbeats 4000000 in
set_option maxRecDepth 100000 in
theorem b_X7_addWayT {X : VC} {μ : Mem} (p : Nat) (b : Int) (hW : WF μ) (hp : p < pcn μ) (hb : -2147483648 ≤ b ∧ b ≤ 2147483647) (hb1 : b < 1 ∨ ((2 ^ rc μ : Nat) : Int) ≤ b) (K : vK X cX7_addWay 3 RX7 wsX7_addWay ({ frames := 6, cells := 1, slots := 6, locals := 82 } : Room)) (T : vT X μ "java/lang/IllegalArgumentException") : vW X 3 0 0 0 [(0, .ref (vAd X 0)), (1, .int (iZ (p : Int))), (2, .int (iZ b))] [] μ := by
  have hpc := hW.pc6
  have hpl := hW.pl (p := p) (by omega)
  have hrc := hW.rc8
  have h28 := p2_8 hrc.1
  refine v_aload_n 0 K dX7_addWay_0 rfl ?_
  refine v_iload_n 1 K dX7_addWay_1 rfl ?_
  refine v_callVvr (c := 0) (As := [.int (iZ (p : Int))]) (rest := []) K isO_SJ rfl 1 (c_X7_checkPlayer X.1.2.1 K.2.2.2.2.2.2 _ _ _ μ (p : Int) (by omega) (by omega)) gX7_addWay_X7_checkPlayer rfl rfl rfl (by decide +kernel) ⟨(Nat.le_of_ble_eq_true rfl), (Nat.le_of_ble_eq_true rfl)⟩ rfl rfl (Nat.le_of_ble_eq_true rfl) dX7_addWay_2 ⟨(Nat.le_of_ble_eq_true rfl), (Nat.le_of_ble_eq_true rfl)⟩ ?_
  refine v_iload_n 2 K dX7_addWay_5 rfl ?_
  refine v_iconst K dX7_addWay_6 ?_
  refine v_icmp_lt 23 K dX7_addWay_7 (by decide) (by omega) (by decide) (fun c7 => ?_) (fun c7 => ?_)
  · exact v_throwS (own := RX7) (cls := "java/lang/IllegalArgumentException") (text := "no resources, or one that does not exist") K T (by decide +kernel) (by decide +kernel) (List.mem_cons_of_mem _ (List.mem_append_left _ (List.mem_append_left _ (List.mem_append_left _ (List.mem_append_left _ (List.mem_append_left _ (List.mem_append_left _ (List.mem_append_left _ (List.mem_append_left _ (List.mem_append_left _ (List.mem_append_left _ (List.mem_of_getElem? (i := 0) rfl)))))))))))) (List.mem_cons_of_mem _ (List.mem_append_left _ (List.mem_append_left _ (List.mem_append_left _ (List.mem_append_left _ (List.mem_append_left _ (List.mem_append_left _ (List.mem_append_left _ (List.mem_append_left _ (List.mem_append_left _ (List.mem_append_left _ (List.mem_of_getElem? (i := 1) rfl)))))))))))) (fun w h => (List.mem_cons_of_mem _ (List.mem_append_left _ (List.mem_append_left _ (List.mem_append_left _ (List.mem_append_left _ (List.mem_append_right _ h))))))) (by decide +kernel) (by decide +kernel) (by decide +kernel) dX7_addWay_23 dX7_addWay_26 dX7_addWay_27 dX7_addWay_29 dX7_addWay_32 (Nat.le_of_ble_eq_true rfl) (Nat.le_of_ble_eq_true rfl) (Nat.le_of_ble_eq_true rfl) (Nat.le_of_ble_eq_true rfl)
  · refine v_iload_n 2 K dX7_addWay_10 rfl ?_
    refine v_iconst K dX7_addWay_11 ?_
    refine v_aload_n 0 K dX7_addWay_12 rfl ?_
    refine v_get (c := 0) (k := 0) (C := RX7) (T := TX7) (N := 7) (v := .ref (vAd X 1)) K isO_SJ rfl (fun _ h => (List.mem_cons_of_mem _ (List.mem_append_left _ (List.mem_append_left _ (List.mem_append_left _ (List.mem_append_left _ (List.mem_append_left _ (List.mem_append_left _ (List.mem_append_left _ (List.mem_append_left _ (List.mem_append_right _ h))))))))))) (by decide) (List.mem_cons_of_mem _ (List.mem_append_left _ (List.mem_append_left _ (List.mem_append_left _ (List.mem_append_left _ (List.mem_append_left _ (List.mem_append_left _ (List.mem_append_left _ (List.mem_append_left _ (List.mem_append_left _ (List.mem_append_left _ (List.mem_of_getElem? (i := 6) rfl)))))))))))) rfl dX7_addWay_13 rfl ?_
    refine v_get (c := 1) (k := 2) (C := RX0) (T := TX0) (N := 4) (v := .int (iZ (μ 1 2))) K isO_Bd rfl (fun _ h => (List.mem_cons_of_mem _ (List.mem_append_left _ (List.mem_append_left _ (List.mem_append_left _ (List.mem_append_left _ (List.mem_append_left _ (List.mem_append_left _ (List.mem_append_left _ (List.mem_append_right _ h)))))))))) (by decide) (List.mem_cons_of_mem _ (List.mem_append_left _ (List.mem_append_left _ (List.mem_append_left _ (List.mem_append_left _ (List.mem_append_left _ (List.mem_append_left _ (List.mem_append_left _ (List.mem_append_left _ (List.mem_append_left _ (List.mem_append_left _ (List.mem_of_getElem? (i := 7) rfl)))))))))))) rfl dX7_addWay_16 rfl ?_
    refine v_ishl (z := ((2 ^ rc μ : Nat) : Int)) (by rw [hrc.2]; exact iZ_shl1 _ (by omega)) K dX7_addWay_19 ?_
    refine v_icmp_lt 33 K dX7_addWay_20 (by decide) (by omega) (by omega) (fun c20 => (by exfalso; omega)) (fun c20 => ?_)
    exact v_throwS (own := RX7) (cls := "java/lang/IllegalArgumentException") (text := "no resources, or one that does not exist") K T (by decide +kernel) (by decide +kernel) (List.mem_cons_of_mem _ (List.mem_append_left _ (List.mem_append_left _ (List.mem_append_left _ (List.mem_append_left _ (List.mem_append_left _ (List.mem_append_left _ (List.mem_append_left _ (List.mem_append_left _ (List.mem_append_left _ (List.mem_append_left _ (List.mem_of_getElem? (i := 0) rfl)))))))))))) (List.mem_cons_of_mem _ (List.mem_append_left _ (List.mem_append_left _ (List.mem_append_left _ (List.mem_append_left _ (List.mem_append_left _ (List.mem_append_left _ (List.mem_append_left _ (List.mem_append_left _ (List.mem_append_left _ (List.mem_append_left _ (List.mem_of_getElem? (i := 1) rfl)))))))))))) (fun w h => (List.mem_cons_of_mem _ (List.mem_append_left _ (List.mem_append_left _ (List.mem_append_left _ (List.mem_append_left _ (List.mem_append_right _ h))))))) (by decide +kernel) (by decide +kernel) (by decide +kernel) dX7_addWay_23 dX7_addWay_26 dX7_addWay_27 dX7_addWay_29 dX7_addWay_32 (Nat.le_of_ble_eq_true rfl) (Nat.le_of_ble_eq_true rfl) (Nat.le_of_ble_eq_true rfl) (Nat.le_of_ble_eq_true rfl)
theorem c_X7_addWayT (l : Launch) (hl : l.stackTraces = false) (D : va_G) (cy : Nat → ClassId) (ad : Nat → Nat) (μ : Mem) (p : Nat) (b : Int) (hW : WF μ) (hp : p < pcn μ) (hb : -2147483648 ≤ b ∧ b ≤ 2147483647) (hb1 : b < 1 ∨ ((2 ^ rc μ : Nat) : Int) ≤ b) : cTi l yX7_addWay wsX7_addWay ({ frames := 6, cells := 1, slots := 6, locals := 82 } : Room) D cy ad μ [.ref (ad 0), .int (iZ (p : Int)), .int (iZ b)] "java/lang/IllegalArgumentException" :=
  m_thri (av := (fun ad => [.ref (ad 0), .int (iZ (p : Int)), .int (iZ b)])) hl (by decide) rfl rfl (Nat.le_of_ble_eq_true rfl) (fun X K T => b_X7_addWayT p b hW hp hb hb1 K T)
set_option maxHeartbeats 4000000 in
set_option maxRecDepth 100000 in
theorem b_X7_addWayT2 {X : VC} {μ : Mem} (n : Int) (b : Int) (hpc : 0 ≤ μ 1 3 ∧ μ 1 3 ≤ 6) (h : μ 1 3 ≤ n ∧ n ≤ 1000) (K : vK X cX7_addWay 3 RX7 wsX7_addWay ({ frames := 7, cells := 1, slots := 6, locals := 103 } : Room)) (T : vT X μ "java/lang/IndexOutOfBoundsException") : vW X 3 0 0 0 [(0, .ref (vAd X 0)), (1, .int (iZ n)), (2, .int (iZ b))] [] μ := by
  refine v_aload_n 0 K dX7_addWay_0 rfl ?_
  refine v_iload_n 1 K dX7_addWay_1 rfl ?_
  exact v_callVTv (c := 0) (As := [.int (iZ n)]) (rest := []) K T isO_SJ rfl 1 (c_X7_checkPlayerT X.1.2.1 K.2.2.2.2.2.2 _ _ _ μ n hpc h) gX7_addWay_X7_checkPlayer rfl rfl rfl (by decide +kernel) ⟨(Nat.le_of_ble_eq_true rfl), (Nat.le_of_ble_eq_true rfl)⟩ rfl rfl (Nat.le_of_ble_eq_true rfl) dX7_addWay_2 ⟨(Nat.le_of_ble_eq_true rfl), (Nat.le_of_ble_eq_true rfl)⟩ (Nat.le_of_ble_eq_true rfl) (Nat.le_of_ble_eq_true rfl)
theorem c_X7_addWayT2 (l : Launch) (hl : l.stackTraces = false) (D : va_G) (cy : Nat → ClassId) (ad : Nat → Nat) (μ : Mem) (n : Int) (b : Int) (hpc : 0 ≤ μ 1 3 ∧ μ 1 3 ≤ 6) (h : μ 1 3 ≤ n ∧ n ≤ 1000) : cTi l yX7_addWay wsX7_addWay ({ frames := 7, cells := 1, slots := 6, locals := 103 } : Room) D cy ad μ [.ref (ad 0), .int (iZ n), .int (iZ b)] "java/lang/IndexOutOfBoundsException" :=
  m_thri (av := (fun ad => [.ref (ad 0), .int (iZ n), .int (iZ b)])) hl (by decide) rfl rfl (Nat.le_of_ble_eq_true rfl) (fun X K T => b_X7_addWayT2 n b hpc h K T)
theorem dX7_addWay_61 : decode cX7_addWay 61 = .ok (.new 115, 3) := by decide +kernel
theorem dX7_addWay_64 : decode cX7_addWay 64 = .ok (.dup, 1) := by decide +kernel
theorem dX7_addWay_65 : decode cX7_addWay 65 = .ok (.ldc 117, 2) := by decide +kernel
theorem dX7_addWay_67 : decode cX7_addWay 67 = .ok (.invokespecial 119, 3) := by decide +kernel
theorem dX7_addWay_70 : decode cX7_addWay 70 = .ok (.athrow, 1) := by decide +kernel
set_option maxHeartbeats 4000000 in
set_option maxRecDepth 100000 in
theorem b_X7_addWayT3 {X : VC} {μ : Mem} (p : Nat) (b : Int) (hW : WF μ) (hc : μ (2 + 0) 2 = 0) (hp : p < pcn μ) (hb : 1 ≤ b ∧ b < ((2 ^ rc μ : Nat) : Int)) (hyes : ∃ k : Nat, (k : Int) < μ (37 + p) 3 ∧ μ (43 + p) k = b) (K : vK X cX7_addWay 3 RX7 wsX7_addWay ({ frames := 6, cells := 1, slots := 6, locals := 82 } : Room)) (T : vT X μ "java/lang/UnsupportedOperationException") : vW X 3 0 0 0 [(0, .ref (vAd X 0)), (1, .int (iZ (p : Int))), (2, .int (iZ b))] [] μ := by
  have hpc := hW.pc6
  have hpl := hW.pl (p := p) (by omega)
  have hrc := hW.rc8
  have h28 := p2_8 hrc.1
  refine v_aload_n 0 K dX7_addWay_0 rfl ?_
  refine v_iload_n 1 K dX7_addWay_1 rfl ?_
  refine v_callVvr (c := 0) (As := [.int (iZ (p : Int))]) (rest := []) K isO_SJ rfl 1 (c_X7_checkPlayer X.1.2.1 K.2.2.2.2.2.2 _ _ _ μ (p : Int) (by omega) (by omega)) gX7_addWay_X7_checkPlayer rfl rfl rfl (by decide +kernel) ⟨(Nat.le_of_ble_eq_true rfl), (Nat.le_of_ble_eq_true rfl)⟩ rfl rfl (Nat.le_of_ble_eq_true rfl) dX7_addWay_2 ⟨(Nat.le_of_ble_eq_true rfl), (Nat.le_of_ble_eq_true rfl)⟩ ?_
  refine v_iload_n 2 K dX7_addWay_5 rfl ?_
  refine v_iconst K dX7_addWay_6 ?_
  refine v_icmp_lt 23 K dX7_addWay_7 (by decide) (by omega) (by decide) (fun c7 => (by exfalso; omega)) (fun c7 => ?_)
  refine v_iload_n 2 K dX7_addWay_10 rfl ?_
  refine v_iconst K dX7_addWay_11 ?_
  refine v_aload_n 0 K dX7_addWay_12 rfl ?_
  refine v_get (c := 0) (k := 0) (C := RX7) (T := TX7) (N := 7) (v := .ref (vAd X 1)) K isO_SJ rfl (fun _ h => (List.mem_cons_of_mem _ (List.mem_append_left _ (List.mem_append_left _ (List.mem_append_left _ (List.mem_append_left _ (List.mem_append_left _ (List.mem_append_left _ (List.mem_append_left _ (List.mem_append_left _ (List.mem_append_right _ h))))))))))) (by decide) (List.mem_cons_of_mem _ (List.mem_append_left _ (List.mem_append_left _ (List.mem_append_left _ (List.mem_append_left _ (List.mem_append_left _ (List.mem_append_left _ (List.mem_append_left _ (List.mem_append_left _ (List.mem_append_left _ (List.mem_append_left _ (List.mem_of_getElem? (i := 6) rfl)))))))))))) rfl dX7_addWay_13 rfl ?_
  refine v_get (c := 1) (k := 2) (C := RX0) (T := TX0) (N := 4) (v := .int (iZ (μ 1 2))) K isO_Bd rfl (fun _ h => (List.mem_cons_of_mem _ (List.mem_append_left _ (List.mem_append_left _ (List.mem_append_left _ (List.mem_append_left _ (List.mem_append_left _ (List.mem_append_left _ (List.mem_append_left _ (List.mem_append_right _ h)))))))))) (by decide) (List.mem_cons_of_mem _ (List.mem_append_left _ (List.mem_append_left _ (List.mem_append_left _ (List.mem_append_left _ (List.mem_append_left _ (List.mem_append_left _ (List.mem_append_left _ (List.mem_append_left _ (List.mem_append_left _ (List.mem_append_left _ (List.mem_of_getElem? (i := 7) rfl)))))))))))) rfl dX7_addWay_16 rfl ?_
  refine v_ishl (z := ((2 ^ rc μ : Nat) : Int)) (by rw [hrc.2]; exact iZ_shl1 _ (by omega)) K dX7_addWay_19 ?_
  refine v_icmp_lt 33 K dX7_addWay_20 (by decide) (by omega) (by omega) (fun c20 => ?_) (fun c20 => (by exfalso; omega))
  refine v_iload_n 2 K dX7_addWay_33 rfl ?_
  refine v_aload_n 0 K dX7_addWay_34 rfl ?_
  refine v_get (c := 0) (k := 1) (C := RX7) (T := TX7) (N := 7) (v := .ref (vAd X (2 + 0))) K isO_SJ rfl (fun _ h => (List.mem_cons_of_mem _ (List.mem_append_left _ (List.mem_append_left _ (List.mem_append_left _ (List.mem_append_left _ (List.mem_append_left _ (List.mem_append_left _ (List.mem_append_left _ (List.mem_append_left _ (List.mem_append_right _ h))))))))))) (by decide) (List.mem_cons_of_mem _ (List.mem_append_left _ (List.mem_append_left _ (List.mem_append_left _ (List.mem_append_left _ (List.mem_append_left _ (List.mem_append_left _ (List.mem_append_left _ (List.mem_append_left _ (List.mem_append_left _ (List.mem_append_left _ (List.mem_of_getElem? (i := 8) rfl)))))))))))) rfl dX7_addWay_35 rfl ?_
  refine v_get (c := (2 + 0)) (k := 2) (C := RX3) (T := TX3) (N := 3) (v := .int (iZ (μ (2 + 0) 2))) K (isO_Pl (y := 0) (by omega)) rfl (fun _ h => (List.mem_cons_of_mem _ (List.mem_append_left _ (List.mem_append_left _ (List.mem_append_left _ (List.mem_append_left _ (List.mem_append_left _ (List.mem_append_left _ (List.mem_append_right _ h))))))))) (by decide) (List.mem_cons_of_mem _ (List.mem_append_left _ (List.mem_append_left _ (List.mem_append_left _ (List.mem_append_left _ (List.mem_append_left _ (List.mem_append_left _ (List.mem_append_left _ (List.mem_append_left _ (List.mem_append_left _ (List.mem_append_left _ (List.mem_of_getElem? (i := 9) rfl)))))))))))) rfl dX7_addWay_38 rfl ?_
  refine v_top (b := 0) (by rw [hc]) ?_
  refine v_iand (z := 0) (iZ_and0 _) K dX7_addWay_41 ?_
  refine v_if_ne 61 K dX7_addWay_42 (by decide) (by decide) (fun c42 => (by exfalso; omega)) (fun c42 => ?_)
  refine v_aload_n 0 K dX7_addWay_45 rfl ?_
  refine v_get (c := 0) (k := 0) (C := RX7) (T := TX7) (N := 7) (v := .ref (vAd X 1)) K isO_SJ rfl (fun _ h => (List.mem_cons_of_mem _ (List.mem_append_left _ (List.mem_append_left _ (List.mem_append_left _ (List.mem_append_left _ (List.mem_append_left _ (List.mem_append_left _ (List.mem_append_left _ (List.mem_append_left _ (List.mem_append_right _ h))))))))))) (by decide) (List.mem_cons_of_mem _ (List.mem_append_left _ (List.mem_append_left _ (List.mem_append_left _ (List.mem_append_left _ (List.mem_append_left _ (List.mem_append_left _ (List.mem_append_left _ (List.mem_append_left _ (List.mem_append_left _ (List.mem_append_left _ (List.mem_of_getElem? (i := 6) rfl)))))))))))) rfl dX7_addWay_46 rfl ?_
  refine v_get (c := 1) (k := 1) (C := RX0) (T := TX0) (N := 4) (v := .ref (vAd X 20)) K isO_Bd rfl (fun _ h => (List.mem_cons_of_mem _ (List.mem_append_left _ (List.mem_append_left _ (List.mem_append_left _ (List.mem_append_left _ (List.mem_append_left _ (List.mem_append_left _ (List.mem_append_left _ (List.mem_append_right _ h)))))))))) (by decide) (List.mem_cons_of_mem _ (List.mem_append_left _ (List.mem_append_left _ (List.mem_append_left _ (List.mem_append_left _ (List.mem_append_left _ (List.mem_append_left _ (List.mem_append_left _ (List.mem_append_left _ (List.mem_append_left _ (List.mem_append_left _ (List.mem_of_getElem? (i := 10) rfl)))))))))))) rfl dX7_addWay_49 rfl ?_
  refine v_iload_n 1 K dX7_addWay_52 rfl ?_
  refine v_aald (c := 20) p K isQ_Py rfl rfl (by omega) dX7_addWay_53 ?_
  refine v_iload_n 2 K dX7_addWay_54 rfl ?_
  refine v_callVis (c := (37 + p)) (As := [.int (iZ b)]) (rest := []) K (isO_Py (p := p) (by omega)) rfl 1 (c_X4_owns X.1.2.1 K.2.2.2.2.2.2 _ _ _ μ p b (by omega) (by omega) hW) gX7_addWay_X4_owns rfl rfl rfl (by decide +kernel) ⟨(Nat.le_of_ble_eq_true rfl), (Nat.le_of_ble_eq_true rfl)⟩ rfl rfl (Nat.le_of_ble_eq_true rfl) dX7_addWay_55 ⟨(Nat.le_of_ble_eq_true rfl), (Nat.le_of_ble_eq_true rfl)⟩ (fun z55 q55 => ?_)
  refine v_if_eq 71 K dX7_addWay_58 (by decide) (by have := q55; omega) (fun c58 => (by exfalso; obtain ⟨k, hk1, hk2⟩ := hyes; rcases q55 with q | q; exact q.2 k hk1 hk2; omega)) (fun c58 => ?_)
  exact v_throwS (own := RX7) (cls := "java/lang/UnsupportedOperationException") (text := "closed, or a way that the player has") K T (by decide +kernel) (by decide +kernel) (List.mem_cons_of_mem _ (List.mem_append_left _ (List.mem_append_left _ (List.mem_append_left _ (List.mem_append_left _ (List.mem_append_left _ (List.mem_append_left _ (List.mem_append_left _ (List.mem_append_left _ (List.mem_append_left _ (List.mem_append_left _ (List.mem_of_getElem? (i := 2) rfl)))))))))))) (List.mem_cons_of_mem _ (List.mem_append_left _ (List.mem_append_left _ (List.mem_append_left _ (List.mem_append_left _ (List.mem_append_left _ (List.mem_append_left _ (List.mem_append_left _ (List.mem_append_left _ (List.mem_append_left _ (List.mem_append_left _ (List.mem_of_getElem? (i := 3) rfl)))))))))))) (fun w h => (List.mem_cons_of_mem _ (List.mem_append_left _ (List.mem_append_left _ (List.mem_append_left _ (List.mem_append_right _ h)))))) (by decide +kernel) (by decide +kernel) (by decide +kernel) dX7_addWay_61 dX7_addWay_64 dX7_addWay_65 dX7_addWay_67 dX7_addWay_70 (Nat.le_of_ble_eq_true rfl) (Nat.le_of_ble_eq_true rfl) (Nat.le_of_ble_eq_true rfl) (Nat.le_of_ble_eq_true rfl)
theorem c_X7_addWayT3 (l : Launch) (hl : l.stackTraces = false) (D : va_G) (cy : Nat → ClassId) (ad : Nat → Nat) (μ : Mem) (p : Nat) (b : Int) (hW : WF μ) (hc : μ (2 + 0) 2 = 0) (hp : p < pcn μ) (hb : 1 ≤ b ∧ b < ((2 ^ rc μ : Nat) : Int)) (hyes : ∃ k : Nat, (k : Int) < μ (37 + p) 3 ∧ μ (43 + p) k = b) : cTi l yX7_addWay wsX7_addWay ({ frames := 6, cells := 1, slots := 6, locals := 82 } : Room) D cy ad μ [.ref (ad 0), .int (iZ (p : Int)), .int (iZ b)] "java/lang/UnsupportedOperationException" :=
  m_thri (av := (fun ad => [.ref (ad 0), .int (iZ (p : Int)), .int (iZ b)])) hl (by decide) rfl rfl (Nat.le_of_ble_eq_true rfl) (fun X K T => b_X7_addWayT3 p b hW hc hp hb hyes K T)
theorem dX7_choose_0 : decode cX7_choose 0 = .ok (.aload_n 0, 1) := by decide +kernel
theorem dX7_choose_1 : decode cX7_choose 1 = .ok (.iload_n 1, 1) := by decide +kernel
theorem dX7_choose_2 : decode cX7_choose 2 = .ok (.iload_n 2, 1) := by decide +kernel
theorem dX7_choose_3 : decode cX7_choose 3 = .ok (.invokevirtual 148, 3) := by decide +kernel
set_option maxRecDepth 20000 in
theorem ggX7_choose_X7_checkWay : GoodIn wsX7_choose wsX7_checkWay := goodIn_ca (goodIn_r _ [10, 11, 12, 3, 13, 14, 15, 16, 17, 9, 18, 19, 44, 45, 46, 47, 48, 49, 50, 54, 55, 56, 57, 58, 59, 60, 61, 62, 63] (by decide +kernel) (by decide +kernel)) (goodIn_sub (fun _ h => List.mem_cons_of_mem _ (List.mem_append_right _ h)) (by decide +kernel))
set_option maxRecDepth 20000 in
theorem gX7_choose_X7_checkWay : GoodIn wsX7_choose (wsV RX7 148 RX7 yX7_checkWay wsX7_checkWay) := goodIn_app (goodIn_of _ (by decide +kernel)) ggX7_choose_X7_checkWay
theorem dX7_choose_6 : decode cX7_choose 6 = .ok (.aload_n 0, 1) := by decide +kernel
theorem dX7_choose_7 : decode cX7_choose 7 = .ok (.getfield 10, 3) := by decide +kernel
theorem dX7_choose_10 : decode cX7_choose 10 = .ok (.aload_n 0, 1) := by decide +kernel
theorem dX7_choose_11 : decode cX7_choose 11 = .ok (.getfield 19, 3) := by decide +kernel
theorem dX7_choose_14 : decode cX7_choose 14 = .ok (.iload_n 1, 1) := by decide +kernel
theorem dX7_choose_15 : decode cX7_choose 15 = .ok (.iload_n 2, 1) := by decide +kernel
theorem dX7_choose_16 : decode cX7_choose 16 = .ok (.invokevirtual 155, 3) := by decide +kernel
set_option maxRecDepth 20000 in
theorem ggX7_choose_X0_isOpen : GoodIn wsX7_choose wsX0_isOpen := goodIn_ca (goodIn_r _ [24, 25, 26, 27, 28, 29, 30, 31, 32, 33, 54, 55, 56, 57, 51, 52, 53, 58, 59, 60, 61, 62, 63] (by decide +kernel) (by decide +kernel)) (goodIn_sub (fun _ h => List.mem_cons_of_mem _ (List.mem_append_left _ (List.mem_append_right _ h))) (by decide +kernel))
set_option maxRecDepth 20000 in
theorem gX7_choose_X0_isOpen : GoodIn wsX7_choose (wsV RX7 155 RX0 yX0_isOpen wsX0_isOpen) := goodIn_app (goodIn_of _ (by decide +kernel)) ggX7_choose_X0_isOpen
theorem dX7_choose_19 : decode cX7_choose 19 = .ok (.ifCond .ne 13, 3) := by decide +kernel
theorem dX7_choose_32 : decode cX7_choose 32 = .ok (.aload_n 0, 1) := by decide +kernel
theorem dX7_choose_33 : decode cX7_choose 33 = .ok (.getfield 19, 3) := by decide +kernel
theorem dX7_choose_36 : decode cX7_choose 36 = .ok (.getfield 161, 3) := by decide +kernel
theorem dX7_choose_39 : decode cX7_choose 39 = .ok (.iload_n 1, 1) := by decide +kernel
theorem dX7_choose_40 : decode cX7_choose 40 = .ok (.iaload, 1) := by decide +kernel
theorem dX7_choose_41 : decode cX7_choose 41 = .ok (.istore_n 3, 1) := by decide +kernel
theorem dX7_choose_42 : decode cX7_choose 42 = .ok (.aload_n 0, 1) := by decide +kernel
theorem dX7_choose_43 : decode cX7_choose 43 = .ok (.getfield 10, 3) := by decide +kernel
theorem dX7_choose_46 : decode cX7_choose 46 = .ok (.aload_n 0, 1) := by decide +kernel
theorem dX7_choose_47 : decode cX7_choose 47 = .ok (.getfield 19, 3) := by decide +kernel
theorem dX7_choose_50 : decode cX7_choose 50 = .ok (.iload_n 1, 1) := by decide +kernel
theorem dX7_choose_51 : decode cX7_choose 51 = .ok (.iload_n 2, 1) := by decide +kernel
theorem dX7_choose_52 : decode cX7_choose 52 = .ok (.invokevirtual 164, 3) := by decide +kernel
set_option maxRecDepth 20000 in
theorem ggX7_choose_X0_take : GoodIn wsX7_choose wsX0_take := goodIn_ca (goodIn_r _ [37, 25, 38, 39, 40, 41, 27, 28, 29, 30, 31, 32, 33, 42, 9, 43, 54, 55, 56, 57, 51, 52, 53, 58, 59, 60, 61, 62, 63] (by decide +kernel) (by decide +kernel)) (goodIn_sub (fun _ h => List.mem_cons_of_mem _ (List.mem_append_left _ (List.mem_append_right _ h))) (by decide +kernel))
set_option maxRecDepth 20000 in
theorem gX7_choose_X0_take : GoodIn wsX7_choose (wsV RX7 164 RX0 yX0_take wsX0_take) := goodIn_app (goodIn_of _ (by decide +kernel)) ggX7_choose_X0_take
theorem dX7_choose_55 : decode cX7_choose 55 = .ok (.iload_n 3, 1) := by decide +kernel
theorem dX7_choose_56 : decode cX7_choose 56 = .ok (.ireturn, 1) := by decide +kernel
set_option maxHeartbeats 4000000 in
set_option maxRecDepth 100000 in
theorem b_X7_choose {X : VC} {μ : Mem} (p : Nat) (w : Int) (hW : WF μ) (hB : PB μ 0) (hp : p < pcn μ) (hw : 0 ≤ w ∧ w < μ (37 + p) 3) (K : vK X cX7_choose 4 RX7 wsX7_choose ({ frames := 2, cells := 0, slots := 0, locals := 48 } : Room)) (hret : ∀ (z : Int) (ν : Mem), (fun (z : Int) (ν : Mem) => z = μ (5 + 2 * 0) p ∧ TK μ ν 0 p w) z ν → ∀ n pc k1 k2 lv, k1 ≤ 0 → k2 ≤ 0 → decode cX7_choose pc = .ok (.ireturn, 1) → vW X n pc k1 k2 lv [.int (iZ z)] ν) : vW X 4 0 0 0 [(0, .ref (vAd X 0)), (1, .int (iZ (p : Int))), (2, .int (iZ w))] [] μ := by
  have hpc := hW.pc6
  have hpl := hW.pl (p := p) (by omega)
  have hch := hB.1 p (by omega)
  refine v_aload_n 0 K dX7_choose_0 rfl ?_
  refine v_iload_n 1 K dX7_choose_1 rfl ?_
  refine v_iload_n 2 K dX7_choose_2 rfl ?_
  refine v_callVvr (c := 0) (As := [.int (iZ (p : Int)), .int (iZ w)]) (rest := []) K isO_SJ rfl 2 (c_X7_checkWay X.1.2.1 K.2.2.2.2.2.2 _ _ _ μ p w hW hp hw) gX7_choose_X7_checkWay rfl rfl rfl (by decide +kernel) ⟨(Nat.le_of_ble_eq_true rfl), (Nat.le_of_ble_eq_true rfl)⟩ rfl rfl (Nat.le_of_ble_eq_true rfl) dX7_choose_3 ⟨(Nat.le_of_ble_eq_true rfl), (Nat.le_of_ble_eq_true rfl)⟩ ?_
  refine v_aload_n 0 K dX7_choose_6 rfl ?_
  refine v_get (c := 0) (k := 0) (C := RX7) (T := TX7) (N := 7) (v := .ref (vAd X 1)) K isO_SJ rfl (fun _ h => (List.mem_cons_of_mem _ (List.mem_append_left _ (List.mem_append_left _ (List.mem_append_left _ (List.mem_append_left _ (List.mem_append_left _ (List.mem_append_left _ (List.mem_append_right _ h))))))))) (by decide) (List.mem_cons_of_mem _ (List.mem_append_left _ (List.mem_append_left _ (List.mem_append_left _ (List.mem_append_left _ (List.mem_append_left _ (List.mem_append_left _ (List.mem_append_left _ (List.mem_append_left _ (List.mem_of_getElem? (i := 2) rfl)))))))))) rfl dX7_choose_7 rfl ?_
  refine v_aload_n 0 K dX7_choose_10 rfl ?_
  refine v_get (c := 0) (k := 1) (C := RX7) (T := TX7) (N := 7) (v := .ref (vAd X (2 + 0))) K isO_SJ rfl (fun _ h => (List.mem_cons_of_mem _ (List.mem_append_left _ (List.mem_append_left _ (List.mem_append_left _ (List.mem_append_left _ (List.mem_append_left _ (List.mem_append_left _ (List.mem_append_right _ h))))))))) (by decide) (List.mem_cons_of_mem _ (List.mem_append_left _ (List.mem_append_left _ (List.mem_append_left _ (List.mem_append_left _ (List.mem_append_left _ (List.mem_append_left _ (List.mem_append_left _ (List.mem_append_left _ (List.mem_of_getElem? (i := 3) rfl)))))))))) rfl dX7_choose_11 rfl ?_
  refine v_iload_n 1 K dX7_choose_14 rfl ?_
  refine v_iload_n 2 K dX7_choose_15 rfl ?_
  refine v_callVir (c := 1) (As := [.ref (vAd X (2 + 0)), .int (iZ (p : Int)), .int (iZ w)]) (rest := []) K isO_Bd rfl 3 (c_X0_isOpen X.1.2.1 K.2.2.2.2.2.2 _ _ _ μ 0 p w (by omega) (by omega) hW (by omega) hB.2.2) gX7_choose_X0_isOpen rfl rfl rfl (by decide +kernel) ⟨(Nat.le_of_ble_eq_true rfl), (Nat.le_of_ble_eq_true rfl)⟩ rfl rfl (Nat.le_of_ble_eq_true rfl) dX7_choose_16 ⟨(Nat.le_of_ble_eq_true rfl), (Nat.le_of_ble_eq_true rfl)⟩ ?_
  refine v_if_ne 32 K dX7_choose_19 (by decide) (by decide) (fun c19 => ?_) (fun c19 => (by exfalso; omega))
  refine v_aload_n 0 K dX7_choose_32 rfl ?_
  refine v_get (c := 0) (k := 1) (C := RX7) (T := TX7) (N := 7) (v := .ref (vAd X (2 + 0))) K isO_SJ rfl (fun _ h => (List.mem_cons_of_mem _ (List.mem_append_left _ (List.mem_append_left _ (List.mem_append_left _ (List.mem_append_left _ (List.mem_append_left _ (List.mem_append_left _ (List.mem_append_right _ h))))))))) (by decide) (List.mem_cons_of_mem _ (List.mem_append_left _ (List.mem_append_left _ (List.mem_append_left _ (List.mem_append_left _ (List.mem_append_left _ (List.mem_append_left _ (List.mem_append_left _ (List.mem_append_left _ (List.mem_of_getElem? (i := 3) rfl)))))))))) rfl dX7_choose_33 rfl ?_
  refine v_get (c := (2 + 0)) (k := 0) (C := RX3) (T := TX3) (N := 3) (v := .ref (vAd X (5 + 2 * 0))) K (isO_Pl (y := 0) (by omega)) rfl (fun _ h => (List.mem_cons_of_mem _ (List.mem_append_left _ (List.mem_append_left _ (List.mem_append_left _ (List.mem_append_left _ (List.mem_append_left _ (List.mem_append_right _ h)))))))) (by decide) (List.mem_cons_of_mem _ (List.mem_append_left _ (List.mem_append_left _ (List.mem_append_left _ (List.mem_append_left _ (List.mem_append_left _ (List.mem_append_left _ (List.mem_append_left _ (List.mem_append_left _ (List.mem_of_getElem? (i := 4) rfl)))))))))) rfl dX7_choose_36 rfl ?_
  refine v_iload_n 1 K dX7_choose_39 rfl ?_
  refine v_iald (c := (5 + 2 * 0)) p K (isI_ch (y := 0) (by omega)) rfl (by omega) dX7_choose_40 ?_
  refine v_istore_n [(3, .int (iZ (μ (5 + 2 * 0) p))), (0, .ref (vAd X 0)), (1, .int (iZ (p : Int))), (2, .int (iZ w))] K dX7_choose_41 (by decide) rfl ?_
  refine v_aload_n 1 K dX7_choose_42 rfl ?_
  refine v_get (c := 0) (k := 0) (C := RX7) (T := TX7) (N := 7) (v := .ref (vAd X 1)) K isO_SJ rfl (fun _ h => (List.mem_cons_of_mem _ (List.mem_append_left _ (List.mem_append_left _ (List.mem_append_left _ (List.mem_append_left _ (List.mem_append_left _ (List.mem_append_left _ (List.mem_append_right _ h))))))))) (by decide) (List.mem_cons_of_mem _ (List.mem_append_left _ (List.mem_append_left _ (List.mem_append_left _ (List.mem_append_left _ (List.mem_append_left _ (List.mem_append_left _ (List.mem_append_left _ (List.mem_append_left _ (List.mem_of_getElem? (i := 2) rfl)))))))))) rfl dX7_choose_43 rfl ?_
  refine v_aload_n 1 K dX7_choose_46 rfl ?_
  refine v_get (c := 0) (k := 1) (C := RX7) (T := TX7) (N := 7) (v := .ref (vAd X (2 + 0))) K isO_SJ rfl (fun _ h => (List.mem_cons_of_mem _ (List.mem_append_left _ (List.mem_append_left _ (List.mem_append_left _ (List.mem_append_left _ (List.mem_append_left _ (List.mem_append_left _ (List.mem_append_right _ h))))))))) (by decide) (List.mem_cons_of_mem _ (List.mem_append_left _ (List.mem_append_left _ (List.mem_append_left _ (List.mem_append_left _ (List.mem_append_left _ (List.mem_append_left _ (List.mem_append_left _ (List.mem_append_left _ (List.mem_of_getElem? (i := 3) rfl)))))))))) rfl dX7_choose_47 rfl ?_
  refine v_iload_n 2 K dX7_choose_50 rfl ?_
  refine v_iload_n 3 K dX7_choose_51 rfl ?_
  refine v_callVv (c := 1) (As := [.ref (vAd X (2 + 0)), .int (iZ (p : Int)), .int (iZ w)]) (rest := []) K isO_Bd rfl 3 (c_X0_take X.1.2.1 K.2.2.2.2.2.2 _ _ _ μ 0 p w (by omega) (by omega) hW (by omega) (by omega)) gX7_choose_X0_take rfl rfl rfl (by decide +kernel) ⟨(Nat.le_of_ble_eq_true rfl), (Nat.le_of_ble_eq_true rfl)⟩ rfl rfl (Nat.le_of_ble_eq_true rfl) dX7_choose_52 ⟨(Nat.le_of_ble_eq_true rfl), (Nat.le_of_ble_eq_true rfl)⟩ (fun ν q52 => ?_)
  refine v_iload_n 0 K dX7_choose_55 rfl ?_
  exact hret _ _ ⟨rfl, q52⟩ _ _ _ _ _ (Nat.le_of_ble_eq_true rfl) (Nat.le_of_ble_eq_true rfl) dX7_choose_56
theorem c_X7_choose (l : Launch) (hl : l.stackTraces = false) (D : va_G) (cy : Nat → ClassId) (ad : Nat → Nat) (μ : Mem) (p : Nat) (w : Int) (hW : WF μ) (hB : PB μ 0) (hp : p < pcn μ) (hw : 0 ≤ w ∧ w < μ (37 + p) 3) : cI l yX7_choose wsX7_choose ({ frames := 2, cells := 0, slots := 0, locals := 48 } : Room) D cy ad μ [.ref (ad 0), .int (iZ (p : Int)), .int (iZ w)] (fun (z : Int) (ν : Mem) => z = μ (5 + 2 * 0) p ∧ TK μ ν 0 p w) :=
  m_int (av := (fun ad => [.ref (ad 0), .int (iZ (p : Int)), .int (iZ w)])) hl (by decide) rfl rfl (Nat.le_of_ble_eq_true rfl) (fun _ _ _ => rfl) (fun X K hret => b_X7_choose p w hW hB hp hw K hret)
set_option maxHeartbeats 4000000 in
set_option maxRecDepth 100000 in
theorem b_X7_chooseT {X : VC} {μ : Mem} (p : Nat) (w : Int) (hW : WF μ) (hp : p < pcn μ) (hw : μ (37 + p) 3 ≤ w ∧ w ≤ 1000) (K : vK X cX7_choose 4 RX7 wsX7_choose ({ frames := 7, cells := 1, slots := 6, locals := 104 } : Room)) (T : vT X μ "java/lang/IndexOutOfBoundsException") : vW X 4 0 0 0 [(0, .ref (vAd X 0)), (1, .int (iZ (p : Int))), (2, .int (iZ w))] [] μ := by
  have hpc := hW.pc6
  have hpl := hW.pl (p := p) (by omega)
  refine v_aload_n 0 K dX7_choose_0 rfl ?_
  refine v_iload_n 1 K dX7_choose_1 rfl ?_
  refine v_iload_n 2 K dX7_choose_2 rfl ?_
  exact v_callVTv (c := 0) (As := [.int (iZ (p : Int)), .int (iZ w)]) (rest := []) K T isO_SJ rfl 2 (c_X7_checkWayT X.1.2.1 K.2.2.2.2.2.2 _ _ _ μ p w hW hp hw) gX7_choose_X7_checkWay rfl rfl rfl (by decide +kernel) ⟨(Nat.le_of_ble_eq_true rfl), (Nat.le_of_ble_eq_true rfl)⟩ rfl rfl (Nat.le_of_ble_eq_true rfl) dX7_choose_3 ⟨(Nat.le_of_ble_eq_true rfl), (Nat.le_of_ble_eq_true rfl)⟩ (Nat.le_of_ble_eq_true rfl) (Nat.le_of_ble_eq_true rfl)
theorem c_X7_chooseT (l : Launch) (hl : l.stackTraces = false) (D : va_G) (cy : Nat → ClassId) (ad : Nat → Nat) (μ : Mem) (p : Nat) (w : Int) (hW : WF μ) (hp : p < pcn μ) (hw : μ (37 + p) 3 ≤ w ∧ w ≤ 1000) : cTi l yX7_choose wsX7_choose ({ frames := 7, cells := 1, slots := 6, locals := 104 } : Room) D cy ad μ [.ref (ad 0), .int (iZ (p : Int)), .int (iZ w)] "java/lang/IndexOutOfBoundsException" :=
  m_thri (av := (fun ad => [.ref (ad 0), .int (iZ (p : Int)), .int (iZ w)])) hl (by decide) rfl rfl (Nat.le_of_ble_eq_true rfl) (fun X K T => b_X7_chooseT p w hW hp hw K T)
theorem dX7_setToll_0 : decode cX7_setToll 0 = .ok (.aload_n 0, 1) := by decide +kernel
theorem dX7_setToll_1 : decode cX7_setToll 1 = .ok (.iload_n 1, 1) := by decide +kernel
theorem dX7_setToll_2 : decode cX7_setToll 2 = .ok (.invokevirtual 168, 3) := by decide +kernel
set_option maxRecDepth 20000 in
theorem ggX7_setToll_X7_checkResource : GoodIn wsX7_setToll wsX7_checkResource := goodIn_ca (goodIn_r _ [8, 9, 10, 1, 11, 18, 19, 20, 21, 22, 23, 24, 25, 26, 27, 28] (by decide +kernel) (by decide +kernel)) (goodIn_sub (fun _ h => List.mem_cons_of_mem _ (List.mem_append_left _ (List.mem_append_right _ h))) (by decide +kernel))
set_option maxRecDepth 20000 in
theorem gX7_setToll_X7_checkResource : GoodIn wsX7_setToll (wsV RX7 168 RX7 yX7_checkResource wsX7_checkResource) := goodIn_app (goodIn_of _ (by decide +kernel)) ggX7_setToll_X7_checkResource
theorem dX7_setToll_5 : decode cX7_setToll 5 = .ok (.aload_n 0, 1) := by decide +kernel
theorem dX7_setToll_6 : decode cX7_setToll 6 = .ok (.iload_n 2, 1) := by decide +kernel
theorem dX7_setToll_7 : decode cX7_setToll 7 = .ok (.iconst 0, 1) := by decide +kernel
theorem dX7_setToll_8 : decode cX7_setToll 8 = .ok (.sipush 9999, 3) := by decide +kernel
theorem dX7_setToll_11 : decode cX7_setToll 11 = .ok (.invokevirtual 174, 3) := by decide +kernel
set_option maxRecDepth 20000 in
theorem ggX7_setToll_X7_checkRange : GoodIn wsX7_setToll wsX7_checkRange := goodIn_ca (goodIn_r _ [15, 16, 17] (by decide +kernel) (by decide +kernel)) (goodIn_sub (fun _ h => List.mem_cons_of_mem _ (List.mem_append_right _ h)) (by decide +kernel))
set_option maxRecDepth 20000 in
theorem gX7_setToll_X7_checkRange : GoodIn wsX7_setToll (wsV RX7 174 RX7 yX7_checkRange wsX7_checkRange) := goodIn_app (goodIn_of _ (by decide +kernel)) ggX7_setToll_X7_checkRange
theorem dX7_setToll_14 : decode cX7_setToll 14 = .ok (.aload_n 0, 1) := by decide +kernel
theorem dX7_setToll_15 : decode cX7_setToll 15 = .ok (.getfield 10, 3) := by decide +kernel
theorem dX7_setToll_18 : decode cX7_setToll 18 = .ok (.getfield 66, 3) := by decide +kernel
theorem dX7_setToll_21 : decode cX7_setToll 21 = .ok (.iload_n 1, 1) := by decide +kernel
theorem dX7_setToll_22 : decode cX7_setToll 22 = .ok (.aaload, 1) := by decide +kernel
theorem dX7_setToll_23 : decode cX7_setToll 23 = .ok (.getfield 192, 3) := by decide +kernel
theorem dX7_setToll_26 : decode cX7_setToll 26 = .ok (.istore_n 3, 1) := by decide +kernel
theorem dX7_setToll_27 : decode cX7_setToll 27 = .ok (.aload_n 0, 1) := by decide +kernel
theorem dX7_setToll_28 : decode cX7_setToll 28 = .ok (.getfield 10, 3) := by decide +kernel
theorem dX7_setToll_31 : decode cX7_setToll 31 = .ok (.getfield 66, 3) := by decide +kernel
theorem dX7_setToll_34 : decode cX7_setToll 34 = .ok (.iload_n 1, 1) := by decide +kernel
theorem dX7_setToll_35 : decode cX7_setToll 35 = .ok (.aaload, 1) := by decide +kernel
theorem dX7_setToll_36 : decode cX7_setToll 36 = .ok (.iload_n 2, 1) := by decide +kernel
theorem dX7_setToll_37 : decode cX7_setToll 37 = .ok (.putfield 192, 3) := by decide +kernel
theorem dX7_setToll_40 : decode cX7_setToll 40 = .ok (.iload_n 3, 1) := by decide +kernel
theorem dX7_setToll_41 : decode cX7_setToll 41 = .ok (.ireturn, 1) := by decide +kernel
set_option maxHeartbeats 4000000 in
set_option maxRecDepth 100000 in
theorem b_X7_setToll {X : VC} {μ : Mem} (r : Nat) (x : Int) (hW : WF μ) (hr : r < rc μ) (hx : 0 ≤ x ∧ x ≤ 9999) (K : vK X cX7_setToll 4 RX7 wsX7_setToll ({ frames := 1, cells := 0, slots := 0, locals := 23 } : Room)) (hret : ∀ (z : Int) (ν : Mem), (fun (z : Int) (ν : Mem) => z = μ (21 + r) 5 ∧ ν = upM μ (21 + r) 5 x) z ν → ∀ n pc k1 k2 lv, k1 ≤ 0 → k2 ≤ 0 → decode cX7_setToll pc = .ok (.ireturn, 1) → vW X n pc k1 k2 lv [.int (iZ z)] ν) : vW X 4 0 0 0 [(0, .ref (vAd X 0)), (1, .int (iZ (r : Int))), (2, .int (iZ x))] [] μ := by
  have hrc := hW.rc8
  have htl := hW.tl (r := r) (by omega)
  refine v_aload_n 0 K dX7_setToll_0 rfl ?_
  refine v_iload_n 1 K dX7_setToll_1 rfl ?_
  refine v_callVvr (c := 0) (As := [.int (iZ (r : Int))]) (rest := []) K isO_SJ rfl 1 (c_X7_checkResource X.1.2.1 K.2.2.2.2.2.2 _ _ _ μ (r : Int) (by omega) (by omega)) gX7_setToll_X7_checkResource rfl rfl rfl (by decide +kernel) ⟨(Nat.le_of_ble_eq_true rfl), (Nat.le_of_ble_eq_true rfl)⟩ rfl rfl (Nat.le_of_ble_eq_true rfl) dX7_setToll_2 ⟨(Nat.le_of_ble_eq_true rfl), (Nat.le_of_ble_eq_true rfl)⟩ ?_
  refine v_aload_n 0 K dX7_setToll_5 rfl ?_
  refine v_iload_n 2 K dX7_setToll_6 rfl ?_
  refine v_iconst K dX7_setToll_7 ?_
  refine v_sipush K dX7_setToll_8 (by decide) ?_
  refine v_callVvr (c := 0) (As := [.int (iZ x), .int (iZ 0), .int (iZ 9999)]) (rest := []) K isO_SJ rfl 3 (c_X7_checkRange X.1.2.1 K.2.2.2.2.2.2 _ _ _ μ x 0 9999 hx (by omega)) gX7_setToll_X7_checkRange rfl rfl rfl (by decide +kernel) ⟨(Nat.le_of_ble_eq_true rfl), (Nat.le_of_ble_eq_true rfl)⟩ rfl rfl (Nat.le_of_ble_eq_true rfl) dX7_setToll_11 ⟨(Nat.le_of_ble_eq_true rfl), (Nat.le_of_ble_eq_true rfl)⟩ ?_
  refine v_aload_n 0 K dX7_setToll_14 rfl ?_
  refine v_get (c := 0) (k := 0) (C := RX7) (T := TX7) (N := 7) (v := .ref (vAd X 1)) K isO_SJ rfl (fun _ h => (List.mem_cons_of_mem _ (List.mem_append_left _ (List.mem_append_left _ (List.mem_append_left _ (List.mem_append_left _ (List.mem_append_right _ h))))))) (by decide) (List.mem_cons_of_mem _ (List.mem_append_left _ (List.mem_append_left _ (List.mem_append_left _ (List.mem_append_left _ (List.mem_append_left _ (List.mem_of_getElem? (i := 0) rfl))))))) rfl dX7_setToll_15 rfl ?_
  refine v_get (c := 1) (k := 0) (C := RX0) (T := TX0) (N := 4) (v := .ref (vAd X 19)) K isO_Bd rfl (fun _ h => (List.mem_cons_of_mem _ (List.mem_append_left _ (List.mem_append_left _ (List.mem_append_left _ (List.mem_append_right _ h)))))) (by decide) (List.mem_cons_of_mem _ (List.mem_append_left _ (List.mem_append_left _ (List.mem_append_left _ (List.mem_append_left _ (List.mem_append_left _ (List.mem_of_getElem? (i := 1) rfl))))))) rfl dX7_setToll_18 rfl ?_
  refine v_iload_n 1 K dX7_setToll_21 rfl ?_
  refine v_aald (c := 19) r K isQ_Rs rfl rfl (by omega) dX7_setToll_22 ?_
  refine v_get (c := (21 + r)) (k := 5) (C := RX5) (T := TX5) (N := 7) (v := .int (iZ (μ (21 + r) 5))) K (isO_Rs (r := r) (by omega)) rfl (fun _ h => (List.mem_cons_of_mem _ (List.mem_append_left _ (List.mem_append_left _ (List.mem_append_right _ h))))) (by decide) (List.mem_cons_of_mem _ (List.mem_append_left _ (List.mem_append_left _ (List.mem_append_left _ (List.mem_append_left _ (List.mem_append_left _ (List.mem_of_getElem? (i := 2) rfl))))))) rfl dX7_setToll_23 rfl ?_
  refine v_istore_n [(3, .int (iZ (μ (21 + r) 5))), (0, .ref (vAd X 0)), (1, .int (iZ (r : Int))), (2, .int (iZ x))] K dX7_setToll_26 (by decide) rfl ?_
  refine v_aload_n 1 K dX7_setToll_27 rfl ?_
  refine v_get (c := 0) (k := 0) (C := RX7) (T := TX7) (N := 7) (v := .ref (vAd X 1)) K isO_SJ rfl (fun _ h => (List.mem_cons_of_mem _ (List.mem_append_left _ (List.mem_append_left _ (List.mem_append_left _ (List.mem_append_left _ (List.mem_append_right _ h))))))) (by decide) (List.mem_cons_of_mem _ (List.mem_append_left _ (List.mem_append_left _ (List.mem_append_left _ (List.mem_append_left _ (List.mem_append_left _ (List.mem_of_getElem? (i := 0) rfl))))))) rfl dX7_setToll_28 rfl ?_
  refine v_get (c := 1) (k := 0) (C := RX0) (T := TX0) (N := 4) (v := .ref (vAd X 19)) K isO_Bd rfl (fun _ h => (List.mem_cons_of_mem _ (List.mem_append_left _ (List.mem_append_left _ (List.mem_append_left _ (List.mem_append_right _ h)))))) (by decide) (List.mem_cons_of_mem _ (List.mem_append_left _ (List.mem_append_left _ (List.mem_append_left _ (List.mem_append_left _ (List.mem_append_left _ (List.mem_of_getElem? (i := 1) rfl))))))) rfl dX7_setToll_31 rfl ?_
  refine v_iload_n 2 K dX7_setToll_34 rfl ?_
  refine v_aald (c := 19) r K isQ_Rs rfl rfl (by omega) dX7_setToll_35 ?_
  refine v_iload_n 3 K dX7_setToll_36 rfl ?_
  refine v_put (c := (21 + r)) (k := 5) (C := RX5) (T := TX5) (N := 7) (ty := .int) K (isO_Rs (r := r) (by omega)) rfl (fun _ h => (List.mem_cons_of_mem _ (List.mem_append_left _ (List.mem_append_left _ (List.mem_append_right _ h))))) tyX5_ok nmX5 (by decide) (List.mem_cons_of_mem _ (List.mem_append_left _ (List.mem_append_left _ (List.mem_append_left _ (List.mem_append_left _ (List.mem_append_left _ (List.mem_of_getElem? (i := 2) rfl))))))) rfl rfl (by decide +kernel) dX7_setToll_37 (fun _ _ _ => rfl) (fun _ _ => Nat.le_of_ble_eq_true rfl) rfl rfl ?_
  refine v_iload_n 0 K dX7_setToll_40 rfl ?_
  exact hret _ _ ⟨rfl, rfl⟩ _ _ _ _ _ (Nat.le_of_ble_eq_true rfl) (Nat.le_of_ble_eq_true rfl) dX7_setToll_41
theorem c_X7_setToll (l : Launch) (hl : l.stackTraces = false) (D : va_G) (cy : Nat → ClassId) (ad : Nat → Nat) (μ : Mem) (r : Nat) (x : Int) (hW : WF μ) (hr : r < rc μ) (hx : 0 ≤ x ∧ x ≤ 9999) : cI l yX7_setToll wsX7_setToll ({ frames := 1, cells := 0, slots := 0, locals := 23 } : Room) D cy ad μ [.ref (ad 0), .int (iZ (r : Int)), .int (iZ x)] (fun (z : Int) (ν : Mem) => z = μ (21 + r) 5 ∧ ν = upM μ (21 + r) 5 x) :=
  m_int (av := (fun ad => [.ref (ad 0), .int (iZ (r : Int)), .int (iZ x)])) hl (by decide) rfl rfl (Nat.le_of_ble_eq_true rfl) (fun _ _ _ => rfl) (fun X K hret => b_X7_setToll r x hW hr hx K hret)
set_option maxHeartbeats 4000000 in
set_option maxRecDepth 100000 in
theorem b_X7_setTollT {X : VC} {μ : Mem} (r : Nat) (x : Int) (hW : WF μ) (hr : r < rc μ) (hx : 9999 < x ∧ x ≤ 100000) (K : vK X cX7_setToll 4 RX7 wsX7_setToll ({ frames := 7, cells := 1, slots := 6, locals := 105 } : Room)) (T : vT X μ "java/lang/IllegalArgumentException") : vW X 4 0 0 0 [(0, .ref (vAd X 0)), (1, .int (iZ (r : Int))), (2, .int (iZ x))] [] μ := by
  have hrc := hW.rc8
  have htl := hW.tl (r := r) (by omega)
  refine v_aload_n 0 K dX7_setToll_0 rfl ?_
  refine v_iload_n 1 K dX7_setToll_1 rfl ?_
  refine v_callVvr (c := 0) (As := [.int (iZ (r : Int))]) (rest := []) K isO_SJ rfl 1 (c_X7_checkResource X.1.2.1 K.2.2.2.2.2.2 _ _ _ μ (r : Int) (by omega) (by omega)) gX7_setToll_X7_checkResource rfl rfl rfl (by decide +kernel) ⟨(Nat.le_of_ble_eq_true rfl), (Nat.le_of_ble_eq_true rfl)⟩ rfl rfl (Nat.le_of_ble_eq_true rfl) dX7_setToll_2 ⟨(Nat.le_of_ble_eq_true rfl), (Nat.le_of_ble_eq_true rfl)⟩ ?_
  refine v_aload_n 0 K dX7_setToll_5 rfl ?_
  refine v_iload_n 2 K dX7_setToll_6 rfl ?_
  refine v_iconst K dX7_setToll_7 ?_
  refine v_sipush K dX7_setToll_8 (by decide) ?_
  exact v_callVTv (c := 0) (As := [.int (iZ x), .int (iZ 0), .int (iZ 9999)]) (rest := []) K T isO_SJ rfl 3 (c_X7_checkRangeT X.1.2.1 K.2.2.2.2.2.2 _ _ _ μ x 0 9999 (by omega) (by omega) (by omega) (by omega)) gX7_setToll_X7_checkRange rfl rfl rfl (by decide +kernel) ⟨(Nat.le_of_ble_eq_true rfl), (Nat.le_of_ble_eq_true rfl)⟩ rfl rfl (Nat.le_of_ble_eq_true rfl) dX7_setToll_11 ⟨(Nat.le_of_ble_eq_true rfl), (Nat.le_of_ble_eq_true rfl)⟩ (Nat.le_of_ble_eq_true rfl) (Nat.le_of_ble_eq_true rfl)
theorem c_X7_setTollT (l : Launch) (hl : l.stackTraces = false) (D : va_G) (cy : Nat → ClassId) (ad : Nat → Nat) (μ : Mem) (r : Nat) (x : Int) (hW : WF μ) (hr : r < rc μ) (hx : 9999 < x ∧ x ≤ 100000) : cTi l yX7_setToll wsX7_setToll ({ frames := 7, cells := 1, slots := 6, locals := 105 } : Room) D cy ad μ [.ref (ad 0), .int (iZ (r : Int)), .int (iZ x)] "java/lang/IllegalArgumentException" :=
  m_thri (av := (fun ad => [.ref (ad 0), .int (iZ (r : Int)), .int (iZ x)])) hl (by decide) rfl rfl (Nat.le_of_ble_eq_true rfl) (fun X K T => b_X7_setTollT r x hW hr hx K T)
theorem dX7_setMind_0 : decode cX7_setMind 0 = .ok (.aload_n 0, 1) := by decide +kernel
theorem dX7_setMind_1 : decode cX7_setMind 1 = .ok (.iload_n 1, 1) := by decide +kernel
theorem dX7_setMind_2 : decode cX7_setMind 2 = .ok (.invokevirtual 88, 3) := by decide +kernel
set_option maxRecDepth 20000 in
theorem ggX7_setMind_X7_checkPlayer : GoodIn wsX7_setMind wsX7_checkPlayer := goodIn_ca (goodIn_r _ [8, 9, 10, 1, 11, 18, 19, 20, 21, 22, 23, 24, 25, 26, 27, 28] (by decide +kernel) (by decide +kernel)) (goodIn_sub (fun _ h => List.mem_cons_of_mem _ (List.mem_append_left _ (List.mem_append_right _ h))) (by decide +kernel))
set_option maxRecDepth 20000 in
theorem gX7_setMind_X7_checkPlayer : GoodIn wsX7_setMind (wsV RX7 88 RX7 yX7_checkPlayer wsX7_checkPlayer) := goodIn_app (goodIn_of _ (by decide +kernel)) ggX7_setMind_X7_checkPlayer
theorem dX7_setMind_5 : decode cX7_setMind 5 = .ok (.aload_n 0, 1) := by decide +kernel
theorem dX7_setMind_6 : decode cX7_setMind 6 = .ok (.iload_n 2, 1) := by decide +kernel
theorem dX7_setMind_7 : decode cX7_setMind 7 = .ok (.iconst 0, 1) := by decide +kernel
theorem dX7_setMind_8 : decode cX7_setMind 8 = .ok (.bipush 9, 2) := by decide +kernel
theorem dX7_setMind_10 : decode cX7_setMind 10 = .ok (.invokevirtual 174, 3) := by decide +kernel
set_option maxRecDepth 20000 in
theorem ggX7_setMind_X7_checkRange : GoodIn wsX7_setMind wsX7_checkRange := goodIn_ca (goodIn_r _ [15, 16, 17] (by decide +kernel) (by decide +kernel)) (goodIn_sub (fun _ h => List.mem_cons_of_mem _ (List.mem_append_right _ h)) (by decide +kernel))
set_option maxRecDepth 20000 in
theorem gX7_setMind_X7_checkRange : GoodIn wsX7_setMind (wsV RX7 174 RX7 yX7_checkRange wsX7_checkRange) := goodIn_app (goodIn_of _ (by decide +kernel)) ggX7_setMind_X7_checkRange
theorem dX7_setMind_13 : decode cX7_setMind 13 = .ok (.aload_n 0, 1) := by decide +kernel
theorem dX7_setMind_14 : decode cX7_setMind 14 = .ok (.getfield 10, 3) := by decide +kernel
theorem dX7_setMind_17 : decode cX7_setMind 17 = .ok (.getfield 105, 3) := by decide +kernel
theorem dX7_setMind_20 : decode cX7_setMind 20 = .ok (.iload_n 1, 1) := by decide +kernel
theorem dX7_setMind_21 : decode cX7_setMind 21 = .ok (.aaload, 1) := by decide +kernel
theorem dX7_setMind_22 : decode cX7_setMind 22 = .ok (.getfield 203, 3) := by decide +kernel
theorem dX7_setMind_25 : decode cX7_setMind 25 = .ok (.istore_n 3, 1) := by decide +kernel
theorem dX7_setMind_26 : decode cX7_setMind 26 = .ok (.aload_n 0, 1) := by decide +kernel
theorem dX7_setMind_27 : decode cX7_setMind 27 = .ok (.getfield 10, 3) := by decide +kernel
theorem dX7_setMind_30 : decode cX7_setMind 30 = .ok (.getfield 105, 3) := by decide +kernel
theorem dX7_setMind_33 : decode cX7_setMind 33 = .ok (.iload_n 1, 1) := by decide +kernel
theorem dX7_setMind_34 : decode cX7_setMind 34 = .ok (.aaload, 1) := by decide +kernel
theorem dX7_setMind_35 : decode cX7_setMind 35 = .ok (.iload_n 2, 1) := by decide +kernel
theorem dX7_setMind_36 : decode cX7_setMind 36 = .ok (.putfield 203, 3) := by decide +kernel
theorem dX7_setMind_39 : decode cX7_setMind 39 = .ok (.iload_n 3, 1) := by decide +kernel
theorem dX7_setMind_40 : decode cX7_setMind 40 = .ok (.ireturn, 1) := by decide +kernel
set_option maxHeartbeats 4000000 in
set_option maxRecDepth 100000 in
theorem b_X7_setMind {X : VC} {μ : Mem} (p : Nat) (x : Int) (hW : WF μ) (hp : p < pcn μ) (hx : 0 ≤ x ∧ x ≤ 9) (K : vK X cX7_setMind 4 RX7 wsX7_setMind ({ frames := 1, cells := 0, slots := 0, locals := 23 } : Room)) (hret : ∀ (z : Int) (ν : Mem), (fun (z : Int) (ν : Mem) => z = μ (37 + p) 1 ∧ ν = upM μ (37 + p) 1 x) z ν → ∀ n pc k1 k2 lv, k1 ≤ 0 → k2 ≤ 0 → decode cX7_setMind pc = .ok (.ireturn, 1) → vW X n pc k1 k2 lv [.int (iZ z)] ν) : vW X 4 0 0 0 [(0, .ref (vAd X 0)), (1, .int (iZ (p : Int))), (2, .int (iZ x))] [] μ := by
  have hpc := hW.pc6
  have hpl := hW.pl (p := p) (by omega)
  refine v_aload_n 0 K dX7_setMind_0 rfl ?_
  refine v_iload_n 1 K dX7_setMind_1 rfl ?_
  refine v_callVvr (c := 0) (As := [.int (iZ (p : Int))]) (rest := []) K isO_SJ rfl 1 (c_X7_checkPlayer X.1.2.1 K.2.2.2.2.2.2 _ _ _ μ (p : Int) (by omega) (by omega)) gX7_setMind_X7_checkPlayer rfl rfl rfl (by decide +kernel) ⟨(Nat.le_of_ble_eq_true rfl), (Nat.le_of_ble_eq_true rfl)⟩ rfl rfl (Nat.le_of_ble_eq_true rfl) dX7_setMind_2 ⟨(Nat.le_of_ble_eq_true rfl), (Nat.le_of_ble_eq_true rfl)⟩ ?_
  refine v_aload_n 0 K dX7_setMind_5 rfl ?_
  refine v_iload_n 2 K dX7_setMind_6 rfl ?_
  refine v_iconst K dX7_setMind_7 ?_
  refine v_bipush K dX7_setMind_8 (by decide) ?_
  refine v_callVvr (c := 0) (As := [.int (iZ x), .int (iZ 0), .int (iZ 9)]) (rest := []) K isO_SJ rfl 3 (c_X7_checkRange X.1.2.1 K.2.2.2.2.2.2 _ _ _ μ x 0 9 hx (by omega)) gX7_setMind_X7_checkRange rfl rfl rfl (by decide +kernel) ⟨(Nat.le_of_ble_eq_true rfl), (Nat.le_of_ble_eq_true rfl)⟩ rfl rfl (Nat.le_of_ble_eq_true rfl) dX7_setMind_10 ⟨(Nat.le_of_ble_eq_true rfl), (Nat.le_of_ble_eq_true rfl)⟩ ?_
  refine v_aload_n 0 K dX7_setMind_13 rfl ?_
  refine v_get (c := 0) (k := 0) (C := RX7) (T := TX7) (N := 7) (v := .ref (vAd X 1)) K isO_SJ rfl (fun _ h => (List.mem_cons_of_mem _ (List.mem_append_left _ (List.mem_append_left _ (List.mem_append_left _ (List.mem_append_left _ (List.mem_append_right _ h))))))) (by decide) (List.mem_cons_of_mem _ (List.mem_append_left _ (List.mem_append_left _ (List.mem_append_left _ (List.mem_append_left _ (List.mem_append_left _ (List.mem_of_getElem? (i := 0) rfl))))))) rfl dX7_setMind_14 rfl ?_
  refine v_get (c := 1) (k := 1) (C := RX0) (T := TX0) (N := 4) (v := .ref (vAd X 20)) K isO_Bd rfl (fun _ h => (List.mem_cons_of_mem _ (List.mem_append_left _ (List.mem_append_left _ (List.mem_append_left _ (List.mem_append_right _ h)))))) (by decide) (List.mem_cons_of_mem _ (List.mem_append_left _ (List.mem_append_left _ (List.mem_append_left _ (List.mem_append_left _ (List.mem_append_left _ (List.mem_of_getElem? (i := 1) rfl))))))) rfl dX7_setMind_17 rfl ?_
  refine v_iload_n 1 K dX7_setMind_20 rfl ?_
  refine v_aald (c := 20) p K isQ_Py rfl rfl (by omega) dX7_setMind_21 ?_
  refine v_get (c := (37 + p)) (k := 1) (C := RX4) (T := TX4) (N := 6) (v := .int (iZ (μ (37 + p) 1))) K (isO_Py (p := p) (by omega)) rfl (fun _ h => (List.mem_cons_of_mem _ (List.mem_append_left _ (List.mem_append_left _ (List.mem_append_right _ h))))) (by decide) (List.mem_cons_of_mem _ (List.mem_append_left _ (List.mem_append_left _ (List.mem_append_left _ (List.mem_append_left _ (List.mem_append_left _ (List.mem_of_getElem? (i := 2) rfl))))))) rfl dX7_setMind_22 rfl ?_
  refine v_istore_n [(3, .int (iZ (μ (37 + p) 1))), (0, .ref (vAd X 0)), (1, .int (iZ (p : Int))), (2, .int (iZ x))] K dX7_setMind_25 (by decide) rfl ?_
  refine v_aload_n 1 K dX7_setMind_26 rfl ?_
  refine v_get (c := 0) (k := 0) (C := RX7) (T := TX7) (N := 7) (v := .ref (vAd X 1)) K isO_SJ rfl (fun _ h => (List.mem_cons_of_mem _ (List.mem_append_left _ (List.mem_append_left _ (List.mem_append_left _ (List.mem_append_left _ (List.mem_append_right _ h))))))) (by decide) (List.mem_cons_of_mem _ (List.mem_append_left _ (List.mem_append_left _ (List.mem_append_left _ (List.mem_append_left _ (List.mem_append_left _ (List.mem_of_getElem? (i := 0) rfl))))))) rfl dX7_setMind_27 rfl ?_
  refine v_get (c := 1) (k := 1) (C := RX0) (T := TX0) (N := 4) (v := .ref (vAd X 20)) K isO_Bd rfl (fun _ h => (List.mem_cons_of_mem _ (List.mem_append_left _ (List.mem_append_left _ (List.mem_append_left _ (List.mem_append_right _ h)))))) (by decide) (List.mem_cons_of_mem _ (List.mem_append_left _ (List.mem_append_left _ (List.mem_append_left _ (List.mem_append_left _ (List.mem_append_left _ (List.mem_of_getElem? (i := 1) rfl))))))) rfl dX7_setMind_30 rfl ?_
  refine v_iload_n 2 K dX7_setMind_33 rfl ?_
  refine v_aald (c := 20) p K isQ_Py rfl rfl (by omega) dX7_setMind_34 ?_
  refine v_iload_n 3 K dX7_setMind_35 rfl ?_
  refine v_put (c := (37 + p)) (k := 1) (C := RX4) (T := TX4) (N := 6) (ty := .int) K (isO_Py (p := p) (by omega)) rfl (fun _ h => (List.mem_cons_of_mem _ (List.mem_append_left _ (List.mem_append_left _ (List.mem_append_right _ h))))) tyX4_ok nmX4 (by decide) (List.mem_cons_of_mem _ (List.mem_append_left _ (List.mem_append_left _ (List.mem_append_left _ (List.mem_append_left _ (List.mem_append_left _ (List.mem_of_getElem? (i := 2) rfl))))))) rfl rfl (by decide +kernel) dX7_setMind_36 (fun _ _ _ => rfl) (fun _ _ => Nat.le_of_ble_eq_true rfl) rfl rfl ?_
  refine v_iload_n 0 K dX7_setMind_39 rfl ?_
  exact hret _ _ ⟨rfl, rfl⟩ _ _ _ _ _ (Nat.le_of_ble_eq_true rfl) (Nat.le_of_ble_eq_true rfl) dX7_setMind_40
theorem c_X7_setMind (l : Launch) (hl : l.stackTraces = false) (D : va_G) (cy : Nat → ClassId) (ad : Nat → Nat) (μ : Mem) (p : Nat) (x : Int) (hW : WF μ) (hp : p < pcn μ) (hx : 0 ≤ x ∧ x ≤ 9) : cI l yX7_setMind wsX7_setMind ({ frames := 1, cells := 0, slots := 0, locals := 23 } : Room) D cy ad μ [.ref (ad 0), .int (iZ (p : Int)), .int (iZ x)] (fun (z : Int) (ν : Mem) => z = μ (37 + p) 1 ∧ ν = upM μ (37 + p) 1 x) :=
  m_int (av := (fun ad => [.ref (ad 0), .int (iZ (p : Int)), .int (iZ x)])) hl (by decide) rfl rfl (Nat.le_of_ble_eq_true rfl) (fun _ _ _ => rfl) (fun X K hret => b_X7_setMind p x hW hp hx K hret)
set_option maxHeartbeats 4000000 in
set_option maxRecDepth 100000 in
theorem b_X7_setMindT {X : VC} {μ : Mem} (p : Nat) (x : Int) (hW : WF μ) (hp : p < pcn μ) (hx : 9 < x ∧ x ≤ 100000) (K : vK X cX7_setMind 4 RX7 wsX7_setMind ({ frames := 7, cells := 1, slots := 6, locals := 105 } : Room)) (T : vT X μ "java/lang/IllegalArgumentException") : vW X 4 0 0 0 [(0, .ref (vAd X 0)), (1, .int (iZ (p : Int))), (2, .int (iZ x))] [] μ := by
  have hpc := hW.pc6
  have hpl := hW.pl (p := p) (by omega)
  refine v_aload_n 0 K dX7_setMind_0 rfl ?_
  refine v_iload_n 1 K dX7_setMind_1 rfl ?_
  refine v_callVvr (c := 0) (As := [.int (iZ (p : Int))]) (rest := []) K isO_SJ rfl 1 (c_X7_checkPlayer X.1.2.1 K.2.2.2.2.2.2 _ _ _ μ (p : Int) (by omega) (by omega)) gX7_setMind_X7_checkPlayer rfl rfl rfl (by decide +kernel) ⟨(Nat.le_of_ble_eq_true rfl), (Nat.le_of_ble_eq_true rfl)⟩ rfl rfl (Nat.le_of_ble_eq_true rfl) dX7_setMind_2 ⟨(Nat.le_of_ble_eq_true rfl), (Nat.le_of_ble_eq_true rfl)⟩ ?_
  refine v_aload_n 0 K dX7_setMind_5 rfl ?_
  refine v_iload_n 2 K dX7_setMind_6 rfl ?_
  refine v_iconst K dX7_setMind_7 ?_
  refine v_bipush K dX7_setMind_8 (by decide) ?_
  exact v_callVTv (c := 0) (As := [.int (iZ x), .int (iZ 0), .int (iZ 9)]) (rest := []) K T isO_SJ rfl 3 (c_X7_checkRangeT X.1.2.1 K.2.2.2.2.2.2 _ _ _ μ x 0 9 (by omega) (by omega) (by omega) (by omega)) gX7_setMind_X7_checkRange rfl rfl rfl (by decide +kernel) ⟨(Nat.le_of_ble_eq_true rfl), (Nat.le_of_ble_eq_true rfl)⟩ rfl rfl (Nat.le_of_ble_eq_true rfl) dX7_setMind_10 ⟨(Nat.le_of_ble_eq_true rfl), (Nat.le_of_ble_eq_true rfl)⟩ (Nat.le_of_ble_eq_true rfl) (Nat.le_of_ble_eq_true rfl)
theorem c_X7_setMindT (l : Launch) (hl : l.stackTraces = false) (D : va_G) (cy : Nat → ClassId) (ad : Nat → Nat) (μ : Mem) (p : Nat) (x : Int) (hW : WF μ) (hp : p < pcn μ) (hx : 9 < x ∧ x ≤ 100000) : cTi l yX7_setMind wsX7_setMind ({ frames := 7, cells := 1, slots := 6, locals := 105 } : Room) D cy ad μ [.ref (ad 0), .int (iZ (p : Int)), .int (iZ x)] "java/lang/IllegalArgumentException" :=
  m_thri (av := (fun ad => [.ref (ad 0), .int (iZ (p : Int)), .int (iZ x)])) hl (by decide) rfl rfl (Nat.le_of_ble_eq_true rfl) (fun X K T => b_X7_setMindT p x hW hp hx K T)
theorem dX7_lead_0 : decode cX7_lead 0 = .ok (.aload_n 0, 1) := by decide +kernel
theorem dX7_lead_1 : decode cX7_lead 1 = .ok (.iload_n 1, 1) := by decide +kernel
theorem dX7_lead_2 : decode cX7_lead 2 = .ok (.invokevirtual 88, 3) := by decide +kernel
set_option maxRecDepth 20000 in
theorem ggX7_lead_X7_checkPlayer : GoodIn wsX7_lead wsX7_checkPlayer := goodIn_ca (goodIn_r _ [8, 9, 10, 1, 11, 12, 13, 14, 15, 16, 17, 18, 19, 20, 21, 22] (by decide +kernel) (by decide +kernel)) (goodIn_sub (fun _ h => List.mem_cons_of_mem _ (List.mem_append_right _ h)) (by decide +kernel))
set_option maxRecDepth 20000 in
theorem gX7_lead_X7_checkPlayer : GoodIn wsX7_lead (wsV RX7 88 RX7 yX7_checkPlayer wsX7_checkPlayer) := goodIn_app (goodIn_of _ (by decide +kernel)) ggX7_lead_X7_checkPlayer
theorem dX7_lead_5 : decode cX7_lead 5 = .ok (.aload_n 0, 1) := by decide +kernel
theorem dX7_lead_6 : decode cX7_lead 6 = .ok (.getfield 10, 3) := by decide +kernel
theorem dX7_lead_9 : decode cX7_lead 9 = .ok (.getfield 105, 3) := by decide +kernel
theorem dX7_lead_12 : decode cX7_lead 12 = .ok (.iload_n 1, 1) := by decide +kernel
theorem dX7_lead_13 : decode cX7_lead 13 = .ok (.aaload, 1) := by decide +kernel
theorem dX7_lead_14 : decode cX7_lead 14 = .ok (.getfield 206, 3) := by decide +kernel
theorem dX7_lead_17 : decode cX7_lead 17 = .ok (.istore_n 3, 1) := by decide +kernel
theorem dX7_lead_18 : decode cX7_lead 18 = .ok (.aload_n 0, 1) := by decide +kernel
theorem dX7_lead_19 : decode cX7_lead 19 = .ok (.getfield 10, 3) := by decide +kernel
theorem dX7_lead_22 : decode cX7_lead 22 = .ok (.getfield 105, 3) := by decide +kernel
theorem dX7_lead_25 : decode cX7_lead 25 = .ok (.iload_n 1, 1) := by decide +kernel
theorem dX7_lead_26 : decode cX7_lead 26 = .ok (.aaload, 1) := by decide +kernel
theorem dX7_lead_27 : decode cX7_lead 27 = .ok (.iload_n 2, 1) := by decide +kernel
theorem dX7_lead_28 : decode cX7_lead 28 = .ok (.putfield 206, 3) := by decide +kernel
theorem dX7_lead_31 : decode cX7_lead 31 = .ok (.iload_n 3, 1) := by decide +kernel
theorem dX7_lead_32 : decode cX7_lead 32 = .ok (.ireturn, 1) := by decide +kernel
set_option maxHeartbeats 4000000 in
set_option maxRecDepth 100000 in
theorem b_X7_lead {X : VC} {μ : Mem} (p : Nat) (x : Int) (hW : WF μ) (hp : p < pcn μ) (hx : 0 ≤ x ∧ x ≤ 1) (K : vK X cX7_lead 4 RX7 wsX7_lead ({ frames := 1, cells := 0, slots := 0, locals := 21 } : Room)) (hret : ∀ (z : Int) (ν : Mem), (fun (z : Int) (ν : Mem) => z = μ (37 + p) 2 ∧ (0 ≤ z ∧ z ≤ 1) ∧ ν = upM μ (37 + p) 2 x) z ν → ∀ n pc k1 k2 lv, k1 ≤ 0 → k2 ≤ 0 → decode cX7_lead pc = .ok (.ireturn, 1) → vW X n pc k1 k2 lv [.int (iZ z)] ν) : vW X 4 0 0 0 [(0, .ref (vAd X 0)), (1, .int (iZ (p : Int))), (2, .int (iZ x))] [] μ := by
  have hpc := hW.pc6
  have hpl := hW.pl (p := p) (by omega)
  refine v_aload_n 0 K dX7_lead_0 rfl ?_
  refine v_iload_n 1 K dX7_lead_1 rfl ?_
  refine v_callVvr (c := 0) (As := [.int (iZ (p : Int))]) (rest := []) K isO_SJ rfl 1 (c_X7_checkPlayer X.1.2.1 K.2.2.2.2.2.2 _ _ _ μ (p : Int) (by omega) (by omega)) gX7_lead_X7_checkPlayer rfl rfl rfl (by decide +kernel) ⟨(Nat.le_of_ble_eq_true rfl), (Nat.le_of_ble_eq_true rfl)⟩ rfl rfl (Nat.le_of_ble_eq_true rfl) dX7_lead_2 ⟨(Nat.le_of_ble_eq_true rfl), (Nat.le_of_ble_eq_true rfl)⟩ ?_
  refine v_aload_n 0 K dX7_lead_5 rfl ?_
  refine v_get (c := 0) (k := 0) (C := RX7) (T := TX7) (N := 7) (v := .ref (vAd X 1)) K isO_SJ rfl (fun _ h => (List.mem_cons_of_mem _ (List.mem_append_left _ (List.mem_append_left _ (List.mem_append_left _ (List.mem_append_right _ h)))))) (by decide) (List.mem_cons_of_mem _ (List.mem_append_left _ (List.mem_append_left _ (List.mem_append_left _ (List.mem_append_left _ (List.mem_of_getElem? (i := 0) rfl)))))) rfl dX7_lead_6 rfl ?_
  refine v_get (c := 1) (k := 1) (C := RX0) (T := TX0) (N := 4) (v := .ref (vAd X 20)) K isO_Bd rfl (fun _ h => (List.mem_cons_of_mem _ (List.mem_append_left _ (List.mem_append_left _ (List.mem_append_right _ h))))) (by decide) (List.mem_cons_of_mem _ (List.mem_append_left _ (List.mem_append_left _ (List.mem_append_left _ (List.mem_append_left _ (List.mem_of_getElem? (i := 1) rfl)))))) rfl dX7_lead_9 rfl ?_
  refine v_iload_n 1 K dX7_lead_12 rfl ?_
  refine v_aald (c := 20) p K isQ_Py rfl rfl (by omega) dX7_lead_13 ?_
  refine v_get (c := (37 + p)) (k := 2) (C := RX4) (T := TX4) (N := 6) (v := .int (iZ (μ (37 + p) 2))) K (isO_Py (p := p) (by omega)) rfl (fun _ h => (List.mem_cons_of_mem _ (List.mem_append_left _ (List.mem_append_right _ h)))) (by decide) (List.mem_cons_of_mem _ (List.mem_append_left _ (List.mem_append_left _ (List.mem_append_left _ (List.mem_append_left _ (List.mem_of_getElem? (i := 2) rfl)))))) rfl dX7_lead_14 rfl ?_
  refine v_istore_n [(3, .int (iZ (μ (37 + p) 2))), (0, .ref (vAd X 0)), (1, .int (iZ (p : Int))), (2, .int (iZ x))] K dX7_lead_17 (by decide) rfl ?_
  refine v_aload_n 1 K dX7_lead_18 rfl ?_
  refine v_get (c := 0) (k := 0) (C := RX7) (T := TX7) (N := 7) (v := .ref (vAd X 1)) K isO_SJ rfl (fun _ h => (List.mem_cons_of_mem _ (List.mem_append_left _ (List.mem_append_left _ (List.mem_append_left _ (List.mem_append_right _ h)))))) (by decide) (List.mem_cons_of_mem _ (List.mem_append_left _ (List.mem_append_left _ (List.mem_append_left _ (List.mem_append_left _ (List.mem_of_getElem? (i := 0) rfl)))))) rfl dX7_lead_19 rfl ?_
  refine v_get (c := 1) (k := 1) (C := RX0) (T := TX0) (N := 4) (v := .ref (vAd X 20)) K isO_Bd rfl (fun _ h => (List.mem_cons_of_mem _ (List.mem_append_left _ (List.mem_append_left _ (List.mem_append_right _ h))))) (by decide) (List.mem_cons_of_mem _ (List.mem_append_left _ (List.mem_append_left _ (List.mem_append_left _ (List.mem_append_left _ (List.mem_of_getElem? (i := 1) rfl)))))) rfl dX7_lead_22 rfl ?_
  refine v_iload_n 2 K dX7_lead_25 rfl ?_
  refine v_aald (c := 20) p K isQ_Py rfl rfl (by omega) dX7_lead_26 ?_
  refine v_iload_n 3 K dX7_lead_27 rfl ?_
  refine v_put (c := (37 + p)) (k := 2) (C := RX4) (T := TX4) (N := 6) (ty := .boolean) K (isO_Py (p := p) (by omega)) rfl (fun _ h => (List.mem_cons_of_mem _ (List.mem_append_left _ (List.mem_append_right _ h)))) tyX4_ok nmX4 (by decide) (List.mem_cons_of_mem _ (List.mem_append_left _ (List.mem_append_left _ (List.mem_append_left _ (List.mem_append_left _ (List.mem_of_getElem? (i := 2) rfl)))))) rfl rfl (by decide +kernel) dX7_lead_28 (fun _ _ _ => rfl) (fun _ _ => Nat.le_of_ble_eq_true rfl) (nar_z (by omega)).1 (nar_z (by omega)).2 ?_
  refine v_iload_n 0 K dX7_lead_31 rfl ?_
  exact hret _ _ ⟨rfl, (by omega), rfl⟩ _ _ _ _ _ (Nat.le_of_ble_eq_true rfl) (Nat.le_of_ble_eq_true rfl) dX7_lead_32
theorem c_X7_lead (l : Launch) (hl : l.stackTraces = false) (D : va_G) (cy : Nat → ClassId) (ad : Nat → Nat) (μ : Mem) (p : Nat) (x : Int) (hW : WF μ) (hp : p < pcn μ) (hx : 0 ≤ x ∧ x ≤ 1) : cI l yX7_lead wsX7_lead ({ frames := 1, cells := 0, slots := 0, locals := 21 } : Room) D cy ad μ [.ref (ad 0), .int (iZ (p : Int)), .int (iZ x)] (fun (z : Int) (ν : Mem) => z = μ (37 + p) 2 ∧ (0 ≤ z ∧ z ≤ 1) ∧ ν = upM μ (37 + p) 2 x) :=
  m_int (av := (fun ad => [.ref (ad 0), .int (iZ (p : Int)), .int (iZ x)])) hl (by decide) rfl rfl (Nat.le_of_ble_eq_true rfl) (fun z ν q => (nar_z (by have := q.2.1; omega)).1) (fun X K hret => b_X7_lead p x hW hp hx K hret)
theorem dX7_setSeed_0 : decode cX7_setSeed 0 = .ok (.aload_n 0, 1) := by decide +kernel
theorem dX7_setSeed_1 : decode cX7_setSeed 1 = .ok (.iload_n 1, 1) := by decide +kernel
theorem dX7_setSeed_2 : decode cX7_setSeed 2 = .ok (.iconst 1, 1) := by decide +kernel
theorem dX7_setSeed_3 : decode cX7_setSeed 3 = .ok (.ldc_w 331, 3) := by decide +kernel
theorem dX7_setSeed_6 : decode cX7_setSeed 6 = .ok (.invokevirtual 174, 3) := by decide +kernel
set_option maxRecDepth 20000 in
theorem ggX7_setSeed_X7_checkRange : GoodIn wsX7_setSeed wsX7_checkRange := goodIn_ca (goodIn_r _ [7, 8, 9] (by decide +kernel) (by decide +kernel)) (goodIn_sub (fun _ h => List.mem_cons_of_mem _ (List.mem_append_right _ h)) (by decide +kernel))
set_option maxRecDepth 20000 in
theorem gX7_setSeed_X7_checkRange : GoodIn wsX7_setSeed (wsV RX7 174 RX7 yX7_checkRange wsX7_checkRange) := goodIn_app (goodIn_of _ (by decide +kernel)) ggX7_setSeed_X7_checkRange
theorem dX7_setSeed_9 : decode cX7_setSeed 9 = .ok (.aload_n 0, 1) := by decide +kernel
theorem dX7_setSeed_10 : decode cX7_setSeed 10 = .ok (.getfield 47, 3) := by decide +kernel
theorem dX7_setSeed_13 : decode cX7_setSeed 13 = .ok (.istore_n 2, 1) := by decide +kernel
theorem dX7_setSeed_14 : decode cX7_setSeed 14 = .ok (.aload_n 0, 1) := by decide +kernel
theorem dX7_setSeed_15 : decode cX7_setSeed 15 = .ok (.iload_n 1, 1) := by decide +kernel
theorem dX7_setSeed_16 : decode cX7_setSeed 16 = .ok (.putfield 47, 3) := by decide +kernel
theorem dX7_setSeed_19 : decode cX7_setSeed 19 = .ok (.iload_n 2, 1) := by decide +kernel
theorem dX7_setSeed_20 : decode cX7_setSeed 20 = .ok (.ireturn, 1) := by decide +kernel
set_option maxHeartbeats 4000000 in
set_option maxRecDepth 100000 in
theorem b_X7_setSeed {X : VC} {μ : Mem} (n : Int) (h : 1 ≤ n ∧ n ≤ 2147483646) (K : vK X cX7_setSeed 3 RX7 wsX7_setSeed ({ frames := 1, cells := 0, slots := 0, locals := 23 } : Room)) (hret : ∀ (z : Int) (ν : Mem), (fun (z : Int) (ν : Mem) => z = μ 0 6 ∧ ν = upM μ 0 6 n) z ν → ∀ n pc k1 k2 lv, k1 ≤ 0 → k2 ≤ 0 → decode cX7_setSeed pc = .ok (.ireturn, 1) → vW X n pc k1 k2 lv [.int (iZ z)] ν) : vW X 3 0 0 0 [(0, .ref (vAd X 0)), (1, .int (iZ n))] [] μ := by
  refine v_aload_n 0 K dX7_setSeed_0 rfl ?_
  refine v_iload_n 1 K dX7_setSeed_1 rfl ?_
  refine v_iconst K dX7_setSeed_2 ?_
  refine v_ldcw (v := 2147483646) (n := 2147483646) K (List.mem_cons_of_mem _ (List.mem_append_left _ (List.mem_append_left _ (List.mem_of_getElem? (i := 0) rfl)))) dX7_setSeed_3 (by decide) ?_
  refine v_callVvr (c := 0) (As := [.int (iZ n), .int (iZ 1), .int (iZ 2147483646)]) (rest := []) K isO_SJ rfl 3 (c_X7_checkRange X.1.2.1 K.2.2.2.2.2.2 _ _ _ μ n 1 2147483646 h (by omega)) gX7_setSeed_X7_checkRange rfl rfl rfl (by decide +kernel) ⟨(Nat.le_of_ble_eq_true rfl), (Nat.le_of_ble_eq_true rfl)⟩ rfl rfl (Nat.le_of_ble_eq_true rfl) dX7_setSeed_6 ⟨(Nat.le_of_ble_eq_true rfl), (Nat.le_of_ble_eq_true rfl)⟩ ?_
  refine v_aload_n 0 K dX7_setSeed_9 rfl ?_
  refine v_get (c := 0) (k := 6) (C := RX7) (T := TX7) (N := 7) (v := .int (iZ (μ 0 6))) K isO_SJ rfl (fun _ h => (List.mem_cons_of_mem _ (List.mem_append_left _ (List.mem_append_right _ h)))) (by decide) (List.mem_cons_of_mem _ (List.mem_append_left _ (List.mem_append_left _ (List.mem_of_getElem? (i := 1) rfl)))) rfl dX7_setSeed_10 rfl ?_
  refine v_istore_n [(2, .int (iZ (μ 0 6))), (0, .ref (vAd X 0)), (1, .int (iZ n))] K dX7_setSeed_13 (by decide) rfl ?_
  refine v_aload_n 1 K dX7_setSeed_14 rfl ?_
  refine v_iload_n 2 K dX7_setSeed_15 rfl ?_
  refine v_put (c := 0) (k := 6) (C := RX7) (T := TX7) (N := 7) (ty := .int) K isO_SJ rfl (fun _ h => (List.mem_cons_of_mem _ (List.mem_append_left _ (List.mem_append_right _ h)))) tyX7_ok nmX7 (by decide) (List.mem_cons_of_mem _ (List.mem_append_left _ (List.mem_append_left _ (List.mem_of_getElem? (i := 1) rfl)))) rfl rfl (by decide +kernel) dX7_setSeed_16 (fun _ _ _ => rfl) (fun _ _ => Nat.le_of_ble_eq_true rfl) rfl rfl ?_
  refine v_iload_n 0 K dX7_setSeed_19 rfl ?_
  exact hret _ _ ⟨rfl, rfl⟩ _ _ _ _ _ (Nat.le_of_ble_eq_true rfl) (Nat.le_of_ble_eq_true rfl) dX7_setSeed_20
theorem c_X7_setSeed (l : Launch) (hl : l.stackTraces = false) (D : va_G) (cy : Nat → ClassId) (ad : Nat → Nat) (μ : Mem) (n : Int) (h : 1 ≤ n ∧ n ≤ 2147483646) : cI l yX7_setSeed wsX7_setSeed ({ frames := 1, cells := 0, slots := 0, locals := 23 } : Room) D cy ad μ [.ref (ad 0), .int (iZ n)] (fun (z : Int) (ν : Mem) => z = μ 0 6 ∧ ν = upM μ 0 6 n) :=
  m_int (av := (fun ad => [.ref (ad 0), .int (iZ n)])) hl (by decide) rfl rfl (Nat.le_of_ble_eq_true rfl) (fun _ _ _ => rfl) (fun X K hret => b_X7_setSeed n h K hret)
