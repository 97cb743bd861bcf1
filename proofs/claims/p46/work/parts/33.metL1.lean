theorem dL_setToll_11 : decode cL_setToll 11 = .ok (.astore_n 3, 1) := by decide +kernel
theorem dL_setToll_12 : decode cL_setToll 12 = .ok (.ldc 20, 2) := by decide +kernel
theorem dL_setToll_14 : decode cL_setToll 14 = .ok (.ireturn, 1) := by decide +kernel
set_option maxHeartbeats 4000000 in
set_option maxRecDepth 100000 in
theorem b_L_setTollT {X : VC} {μ : Mem} (r : Nat) (x : Int) (hW : WF μ) (hr : r < rc μ) (hx : 9999 < x ∧ x ≤ 100000) (K : vK X cL_setToll 4 RL wsL_setToll ({ frames := 8, cells := 1, slots := 6, locals := 128 } : Room)) (htb : X.2.2.1.2.1.exceptionTable.toList = [(0, 6, 7, 28), (0, 6, 11, 15)].map (fun x : Nat × Nat × Nat × Nat => (⟨x.1, x.2.1, x.2.2.1, x.2.2.2⟩ : ExceptionTableEntry))) (hret : ∀ (z : Int) (ν : Mem), (fun (z : Int) (ν : Mem) => z = (-900002) ∧ ν = μ) z ν → ∀ n pc k1 k2 lv, k1 ≤ 1 → k2 ≤ 6 → decode cL_setToll pc = .ok (.ireturn, 1) → vW X n pc k1 k2 lv [.int (iZ z)] ν) : vW X 4 0 0 0 [(0, .ref (vAd X 0)), (1, .int (iZ (r : Int))), (2, .int (iZ x))] [] μ := by
  refine v_aload_n 0 K dL_setToll_0 rfl ?_
  refine v_iload_n 1 K dL_setToll_1 rfl ?_
  refine v_iload_n 2 K dL_setToll_2 rfl ?_
  refine v_callVCi (c := 0) (As := [.int (iZ (r : Int)), .int (iZ x)]) (rest := []) (E := "java/lang/IllegalArgumentException") (name := "java/lang/IllegalArgumentException") [(⟨0, 6, 7, 28⟩ : ExceptionTableEntry)] (⟨0, 6, 11, 15⟩ : ExceptionTableEntry) [] htb (List.forall_mem_cons.mpr ⟨Or.inr ⟨by decide, "java/lang/IndexOutOfBoundsException", K.1.2.2.2.2.1 _ (List.mem_cons_of_mem _ (List.mem_append_left _ (List.mem_append_left _ (List.mem_append_left _ (List.mem_append_left _ (List.mem_append_left _ (List.mem_append_left _ (List.mem_of_getElem? (i := 0) rfl)))))))), exP.nc K.2.2.2.2.2.1 "java/lang/IllegalArgumentException" "java/lang/IndexOutOfBoundsException" (by decide +kernel) (by decide +kernel) (by decide +kernel)⟩, (fun _ h => absurd h List.not_mem_nil)⟩) rfl (by decide) (List.mem_cons_of_mem _ (List.mem_append_left _ (List.mem_append_left _ (List.mem_append_left _ (List.mem_append_left _ (List.mem_append_left _ (List.mem_append_left _ (List.mem_of_getElem? (i := 1) rfl)))))))) ⟨rfl, by decide +kernel⟩ K isO_SJ rfl 2 (c_X7_setTollT X.1.2.1 K.2.2.2.2.2.2 _ _ _ μ r x hW hr hx) gL_setToll_X7_setToll rfl rfl rfl (by decide +kernel) ⟨(Nat.le_of_ble_eq_true rfl), (Nat.le_of_ble_eq_true rfl)⟩ rfl rfl (Nat.le_of_ble_eq_true rfl) dL_setToll_3 ⟨(Nat.le_of_ble_eq_true rfl), (Nat.le_of_ble_eq_true rfl)⟩ (fun q9 => ?_)
  refine v_astore_n [(3, .ref q9), (0, .ref (vAd X 0)), (1, .int (iZ (r : Int))), (2, .int (iZ x))] K dL_setToll_11 (by decide) rfl ?_
  refine v_ldc (v := (-900002)) (n := (-900002)) K (List.mem_cons_of_mem _ (List.mem_append_left _ (List.mem_append_left _ (List.mem_append_left _ (List.mem_append_left _ (List.mem_append_left _ (List.mem_append_left _ (List.mem_of_getElem? (i := 3) rfl)))))))) dL_setToll_12 (by decide) ?_
  exact hret _ _ ⟨rfl, rfl⟩ _ _ _ _ _ (Nat.le_of_ble_eq_true rfl) (Nat.le_of_ble_eq_true rfl) dL_setToll_14
theorem c_L_setTollT (l : Launch) (hl : l.stackTraces = false) (D : va_G) (cy : Nat → ClassId) (ad : Nat → Nat) (μ : Mem) (r : Nat) (x : Int) (hW : WF μ) (hr : r < rc μ) (hx : 9999 < x ∧ x ≤ 100000) : cI l yL_setToll wsL_setToll ({ frames := 8, cells := 1, slots := 6, locals := 128 } : Room) D cy ad μ [.ref (ad 0), .int (iZ (r : Int)), .int (iZ x)] (fun (z : Int) (ν : Mem) => z = (-900002) ∧ ν = μ) :=
  m_intH (av := (fun ad => [.ref (ad 0), .int (iZ (r : Int)), .int (iZ x)])) hl (by decide) rfl rfl (Nat.le_of_ble_eq_true rfl) (fun _ _ _ => rfl) (fun X K htb hret => b_L_setTollT r x hW hr hx K htb hret)
theorem dL_getMargin_0 : decode cL_getMargin 0 = .ok (.aload_n 0, 1) := by decide +kernel
theorem dL_getMargin_1 : decode cL_getMargin 1 = .ok (.iload_n 1, 1) := by decide +kernel
theorem dL_getMargin_2 : decode cL_getMargin 2 = .ok (.invokevirtual 62, 3) := by decide +kernel
set_option maxRecDepth 20000 in
theorem ggL_getMargin_X7_getMargin : GoodIn wsL_getMargin wsX7_getMargin := goodIn_ca (goodIn_ca (goodIn_r _ [7, 8, 9, 10, 11, 12, 13, 14, 6, 15, 16, 17, 18, 19, 20, 21, 22, 23, 24, 25, 26, 27, 28, 29, 30, 31, 32, 33, 34, 35, 36, 37, 38, 39, 40, 41, 42, 43, 44, 45, 46, 47, 48, 49, 50, 51, 52, 53] (by decide +kernel) (by decide +kernel)) (goodIn_sub (fun _ h => List.mem_cons_of_mem _ (List.mem_append_left _ (List.mem_append_right _ h))) (by decide +kernel))) (goodIn_sub (fun _ h => List.mem_cons_of_mem _ (List.mem_append_right _ h)) (by decide +kernel))
set_option maxRecDepth 20000 in
theorem gL_getMargin_X7_getMargin : GoodIn wsL_getMargin (wsV RL 62 RX7 yX7_getMargin wsX7_getMargin) := goodIn_app (goodIn_of _ (by decide +kernel)) ggL_getMargin_X7_getMargin
theorem dL_getMargin_5 : decode cL_getMargin 5 = .ok (.ireturn, 1) := by decide +kernel
set_option maxHeartbeats 4000000 in
set_option maxRecDepth 100000 in
theorem b_L_getMargin {X : VC} {μ : Mem} (r : Nat) (hW : WF μ) (hL : PL μ 0) (hr : r < rc μ) (K : vK X cL_getMargin 3 RL wsL_getMargin ({ frames := 3, cells := 0, slots := 0, locals := 63 } : Room)) (htb : X.2.2.1.2.1.exceptionTable.toList = [(0, 5, 6, 28)].map (fun x : Nat × Nat × Nat × Nat => (⟨x.1, x.2.1, x.2.2.1, x.2.2.2⟩ : ExceptionTableEntry))) (hret : ∀ (z : Int) (ν : Mem), (fun (z : Int) (ν : Mem) => z = mrg μ r (μ (6 + 2 * 0) r) ∧ ν = μ) z ν → ∀ n pc k1 k2 lv, k1 ≤ 0 → k2 ≤ 0 → decode cL_getMargin pc = .ok (.ireturn, 1) → vW X n pc k1 k2 lv [.int (iZ z)] ν) : vW X 3 0 0 0 [(0, .ref (vAd X 0)), (1, .int (iZ (r : Int)))] [] μ := by
  refine v_aload_n 0 K dL_getMargin_0 rfl ?_
  refine v_iload_n 1 K dL_getMargin_1 rfl ?_
  refine v_callVir (c := 0) (As := [.int (iZ (r : Int))]) (rest := []) K isO_SJ rfl 1 (c_X7_getMargin X.1.2.1 K.2.2.2.2.2.2 _ _ _ μ r hW hL hr) gL_getMargin_X7_getMargin rfl rfl rfl (by decide +kernel) ⟨(Nat.le_of_ble_eq_true rfl), (Nat.le_of_ble_eq_true rfl)⟩ rfl rfl (Nat.le_of_ble_eq_true rfl) dL_getMargin_2 ⟨(Nat.le_of_ble_eq_true rfl), (Nat.le_of_ble_eq_true rfl)⟩ ?_
  exact hret _ _ ⟨rfl, rfl⟩ _ _ _ _ _ (Nat.le_of_ble_eq_true rfl) (Nat.le_of_ble_eq_true rfl) dL_getMargin_5
theorem c_L_getMargin (l : Launch) (hl : l.stackTraces = false) (D : va_G) (cy : Nat → ClassId) (ad : Nat → Nat) (μ : Mem) (r : Nat) (hW : WF μ) (hL : PL μ 0) (hr : r < rc μ) : cI l yL_getMargin wsL_getMargin ({ frames := 3, cells := 0, slots := 0, locals := 63 } : Room) D cy ad μ [.ref (ad 0), .int (iZ (r : Int))] (fun (z : Int) (ν : Mem) => z = mrg μ r (μ (6 + 2 * 0) r) ∧ ν = μ) :=
  m_intH (av := (fun ad => [.ref (ad 0), .int (iZ (r : Int))])) hl (by decide) rfl rfl (Nat.le_of_ble_eq_true rfl) (fun _ _ _ => rfl) (fun X K htb hret => b_L_getMargin r hW hL hr K htb hret)
theorem dL_setMind_0 : decode cL_setMind 0 = .ok (.aload_n 0, 1) := by decide +kernel
theorem dL_setMind_1 : decode cL_setMind 1 = .ok (.iload_n 1, 1) := by decide +kernel
theorem dL_setMind_2 : decode cL_setMind 2 = .ok (.iload_n 2, 1) := by decide +kernel
theorem dL_setMind_3 : decode cL_setMind 3 = .ok (.invokevirtual 65, 3) := by decide +kernel
set_option maxRecDepth 20000 in
theorem ggL_setMind_X7_setMind : GoodIn wsL_setMind wsX7_setMind := goodIn_ca (goodIn_ca (goodIn_r _ [9, 10, 11, 12, 13, 14, 15, 8, 16, 17, 18, 19, 20, 21, 22, 23, 24, 25, 26, 27, 28, 29, 30, 31, 32, 33, 34, 35, 36, 37, 38, 39, 40, 41, 42] (by decide +kernel) (by decide +kernel)) (goodIn_sub (fun _ h => List.mem_cons_of_mem _ (List.mem_append_left _ (List.mem_append_right _ h))) (by decide +kernel))) (goodIn_sub (fun _ h => List.mem_cons_of_mem _ (List.mem_append_right _ h)) (by decide +kernel))
set_option maxRecDepth 20000 in
theorem gL_setMind_X7_setMind : GoodIn wsL_setMind (wsV RL 65 RX7 yX7_setMind wsX7_setMind) := goodIn_app (goodIn_of _ (by decide +kernel)) ggL_setMind_X7_setMind
theorem dL_setMind_6 : decode cL_setMind 6 = .ok (.ireturn, 1) := by decide +kernel
set_option maxHeartbeats 4000000 in
set_option maxRecDepth 100000 in
theorem b_L_setMind {X : VC} {μ : Mem} (p : Nat) (x : Int) (hW : WF μ) (hp : p < pcn μ) (hx : 0 ≤ x ∧ x ≤ 9) (K : vK X cL_setMind 4 RL wsL_setMind ({ frames := 2, cells := 0, slots := 0, locals := 46 } : Room)) (htb : X.2.2.1.2.1.exceptionTable.toList = [(0, 6, 7, 28), (0, 6, 11, 15)].map (fun x : Nat × Nat × Nat × Nat => (⟨x.1, x.2.1, x.2.2.1, x.2.2.2⟩ : ExceptionTableEntry))) (hret : ∀ (z : Int) (ν : Mem), (fun (z : Int) (ν : Mem) => z = μ (37 + p) 1 ∧ ν = upM μ (37 + p) 1 x) z ν → ∀ n pc k1 k2 lv, k1 ≤ 0 → k2 ≤ 0 → decode cL_setMind pc = .ok (.ireturn, 1) → vW X n pc k1 k2 lv [.int (iZ z)] ν) : vW X 4 0 0 0 [(0, .ref (vAd X 0)), (1, .int (iZ (p : Int))), (2, .int (iZ x))] [] μ := by
  refine v_aload_n 0 K dL_setMind_0 rfl ?_
  refine v_iload_n 1 K dL_setMind_1 rfl ?_
  refine v_iload_n 2 K dL_setMind_2 rfl ?_
  refine v_callVi (c := 0) (As := [.int (iZ (p : Int)), .int (iZ x)]) (rest := []) K isO_SJ rfl 2 (c_X7_setMind X.1.2.1 K.2.2.2.2.2.2 _ _ _ μ p x hW hp hx) gL_setMind_X7_setMind rfl rfl rfl (by decide +kernel) ⟨(Nat.le_of_ble_eq_true rfl), (Nat.le_of_ble_eq_true rfl)⟩ rfl rfl (Nat.le_of_ble_eq_true rfl) dL_setMind_3 ⟨(Nat.le_of_ble_eq_true rfl), (Nat.le_of_ble_eq_true rfl)⟩ (fun z3 ν q3 => ?_)
  exact hret _ _ q3 _ _ _ _ _ (Nat.le_of_ble_eq_true rfl) (Nat.le_of_ble_eq_true rfl) dL_setMind_6
theorem c_L_setMind (l : Launch) (hl : l.stackTraces = false) (D : va_G) (cy : Nat → ClassId) (ad : Nat → Nat) (μ : Mem) (p : Nat) (x : Int) (hW : WF μ) (hp : p < pcn μ) (hx : 0 ≤ x ∧ x ≤ 9) : cI l yL_setMind wsL_setMind ({ frames := 2, cells := 0, slots := 0, locals := 46 } : Room) D cy ad μ [.ref (ad 0), .int (iZ (p : Int)), .int (iZ x)] (fun (z : Int) (ν : Mem) => z = μ (37 + p) 1 ∧ ν = upM μ (37 + p) 1 x) :=
  m_intH (av := (fun ad => [.ref (ad 0), .int (iZ (p : Int)), .int (iZ x)])) hl (by decide) rfl rfl (Nat.le_of_ble_eq_true rfl) (fun _ _ _ => rfl) (fun X K htb hret => b_L_setMind p x hW hp hx K htb hret)
theorem dL_setMind_11 : decode cL_setMind 11 = .ok (.astore_n 3, 1) := by decide +kernel
theorem dL_setMind_12 : decode cL_setMind 12 = .ok (.ldc 20, 2) := by decide +kernel
theorem dL_setMind_14 : decode cL_setMind 14 = .ok (.ireturn, 1) := by decide +kernel
set_option maxHeartbeats 4000000 in
set_option maxRecDepth 100000 in
theorem b_L_setMindT {X : VC} {μ : Mem} (p : Nat) (x : Int) (hW : WF μ) (hp : p < pcn μ) (hx : 9 < x ∧ x ≤ 100000) (K : vK X cL_setMind 4 RL wsL_setMind ({ frames := 8, cells := 1, slots := 6, locals := 128 } : Room)) (htb : X.2.2.1.2.1.exceptionTable.toList = [(0, 6, 7, 28), (0, 6, 11, 15)].map (fun x : Nat × Nat × Nat × Nat => (⟨x.1, x.2.1, x.2.2.1, x.2.2.2⟩ : ExceptionTableEntry))) (hret : ∀ (z : Int) (ν : Mem), (fun (z : Int) (ν : Mem) => z = (-900002) ∧ ν = μ) z ν → ∀ n pc k1 k2 lv, k1 ≤ 1 → k2 ≤ 6 → decode cL_setMind pc = .ok (.ireturn, 1) → vW X n pc k1 k2 lv [.int (iZ z)] ν) : vW X 4 0 0 0 [(0, .ref (vAd X 0)), (1, .int (iZ (p : Int))), (2, .int (iZ x))] [] μ := by
  refine v_aload_n 0 K dL_setMind_0 rfl ?_
  refine v_iload_n 1 K dL_setMind_1 rfl ?_
  refine v_iload_n 2 K dL_setMind_2 rfl ?_
  refine v_callVCi (c := 0) (As := [.int (iZ (p : Int)), .int (iZ x)]) (rest := []) (E := "java/lang/IllegalArgumentException") (name := "java/lang/IllegalArgumentException") [(⟨0, 6, 7, 28⟩ : ExceptionTableEntry)] (⟨0, 6, 11, 15⟩ : ExceptionTableEntry) [] htb (List.forall_mem_cons.mpr ⟨Or.inr ⟨by decide, "java/lang/IndexOutOfBoundsException", K.1.2.2.2.2.1 _ (List.mem_cons_of_mem _ (List.mem_append_left _ (List.mem_append_left _ (List.mem_append_left _ (List.mem_append_left _ (List.mem_append_left _ (List.mem_append_left _ (List.mem_of_getElem? (i := 0) rfl)))))))), exP.nc K.2.2.2.2.2.1 "java/lang/IllegalArgumentException" "java/lang/IndexOutOfBoundsException" (by decide +kernel) (by decide +kernel) (by decide +kernel)⟩, (fun _ h => absurd h List.not_mem_nil)⟩) rfl (by decide) (List.mem_cons_of_mem _ (List.mem_append_left _ (List.mem_append_left _ (List.mem_append_left _ (List.mem_append_left _ (List.mem_append_left _ (List.mem_append_left _ (List.mem_of_getElem? (i := 1) rfl)))))))) ⟨rfl, by decide +kernel⟩ K isO_SJ rfl 2 (c_X7_setMindT X.1.2.1 K.2.2.2.2.2.2 _ _ _ μ p x hW hp hx) gL_setMind_X7_setMind rfl rfl rfl (by decide +kernel) ⟨(Nat.le_of_ble_eq_true rfl), (Nat.le_of_ble_eq_true rfl)⟩ rfl rfl (Nat.le_of_ble_eq_true rfl) dL_setMind_3 ⟨(Nat.le_of_ble_eq_true rfl), (Nat.le_of_ble_eq_true rfl)⟩ (fun q9 => ?_)
  refine v_astore_n [(3, .ref q9), (0, .ref (vAd X 0)), (1, .int (iZ (p : Int))), (2, .int (iZ x))] K dL_setMind_11 (by decide) rfl ?_
  refine v_ldc (v := (-900002)) (n := (-900002)) K (List.mem_cons_of_mem _ (List.mem_append_left _ (List.mem_append_left _ (List.mem_append_left _ (List.mem_append_left _ (List.mem_append_left _ (List.mem_append_left _ (List.mem_of_getElem? (i := 3) rfl)))))))) dL_setMind_12 (by decide) ?_
  exact hret _ _ ⟨rfl, rfl⟩ _ _ _ _ _ (Nat.le_of_ble_eq_true rfl) (Nat.le_of_ble_eq_true rfl) dL_setMind_14
theorem c_L_setMindT (l : Launch) (hl : l.stackTraces = false) (D : va_G) (cy : Nat → ClassId) (ad : Nat → Nat) (μ : Mem) (p : Nat) (x : Int) (hW : WF μ) (hp : p < pcn μ) (hx : 9 < x ∧ x ≤ 100000) : cI l yL_setMind wsL_setMind ({ frames := 8, cells := 1, slots := 6, locals := 128 } : Room) D cy ad μ [.ref (ad 0), .int (iZ (p : Int)), .int (iZ x)] (fun (z : Int) (ν : Mem) => z = (-900002) ∧ ν = μ) :=
  m_intH (av := (fun ad => [.ref (ad 0), .int (iZ (p : Int)), .int (iZ x)])) hl (by decide) rfl rfl (Nat.le_of_ble_eq_true rfl) (fun _ _ _ => rfl) (fun X K htb hret => b_L_setMindT p x hW hp hx K htb hret)
theorem dL_bestWay_0 : decode cL_bestWay 0 = .ok (.aload_n 0, 1) := by decide +kernel
theorem dL_bestWay_1 : decode cL_bestWay 1 = .ok (.iload_n 1, 1) := by decide +kernel
theorem dL_bestWay_2 : decode cL_bestWay 2 = .ok (.invokevirtual 68, 3) := by decide +kernel
set_option maxRecDepth 20000 in
theorem ggL_bestWay_X7_bestWay : GoodIn wsL_bestWay wsX7_bestWay := goodIn_ca (goodIn_ca (goodIn_ca (goodIn_r _ [9, 10, 11, 12, 13, 14, 15, 16, 17, 8, 18, 19, 20, 21, 22, 23, 24, 25, 26, 27, 28, 29, 30, 31, 32, 33, 34, 35, 36, 37, 38, 39, 40, 41, 42, 43, 44, 45, 46, 47, 48, 49, 50, 51, 52, 53, 54, 55, 56, 57, 58, 59, 60, 61, 62, 63, 64, 65, 66, 67, 68, 69, 70, 71, 72, 73, 74, 75, 76, 77, 78, 79, 80, 81, 82, 83, 84, 85, 86] (by decide +kernel) (by decide +kernel)) (goodIn_sub (fun _ h => List.mem_cons_of_mem _ (List.mem_append_left _ (List.mem_append_left _ (List.mem_append_right _ h)))) (by decide +kernel))) (goodIn_sub (fun _ h => List.mem_cons_of_mem _ (List.mem_append_left _ (List.mem_append_right _ h))) (by decide +kernel))) (goodIn_sub (fun _ h => List.mem_cons_of_mem _ (List.mem_append_right _ h)) (by decide +kernel))
set_option maxRecDepth 20000 in
theorem gL_bestWay_X7_bestWay : GoodIn wsL_bestWay (wsV RL 68 RX7 yX7_bestWay wsX7_bestWay) := goodIn_app (goodIn_of _ (by decide +kernel)) ggL_bestWay_X7_bestWay
theorem dL_bestWay_5 : decode cL_bestWay 5 = .ok (.ireturn, 1) := by decide +kernel
set_option maxHeartbeats 4000000 in
set_option maxRecDepth 100000 in
theorem b_L_bestWay {X : VC} {μ : Mem} (p : Nat) (hW : WF μ) (hB : PB μ 0) (hp : p < pcn μ) (hch : 0 ≤ μ (5 + 2 * 0) p) (K : vK X cL_bestWay 3 RL wsL_bestWay ({ frames := 4, cells := 0, slots := 0, locals := 97 } : Room)) (htb : X.2.2.1.2.1.exceptionTable.toList = [(0, 5, 6, 28), (0, 5, 10, 71)].map (fun x : Nat × Nat × Nat × Nat => (⟨x.1, x.2.1, x.2.2.1, x.2.2.2⟩ : ExceptionTableEntry))) (hret : ∀ (z : Int) (ν : Mem), (fun (z : Int) (ν : Mem) => z = bst μ 0 p ∧ ν = μ) z ν → ∀ n pc k1 k2 lv, k1 ≤ 0 → k2 ≤ 0 → decode cL_bestWay pc = .ok (.ireturn, 1) → vW X n pc k1 k2 lv [.int (iZ z)] ν) : vW X 3 0 0 0 [(0, .ref (vAd X 0)), (1, .int (iZ (p : Int)))] [] μ := by
  refine v_aload_n 0 K dL_bestWay_0 rfl ?_
  refine v_iload_n 1 K dL_bestWay_1 rfl ?_
  refine v_callVir (c := 0) (As := [.int (iZ (p : Int))]) (rest := []) K isO_SJ rfl 1 (c_X7_bestWay X.1.2.1 K.2.2.2.2.2.2 _ _ _ μ p hW hB hp hch) gL_bestWay_X7_bestWay rfl rfl rfl (by decide +kernel) ⟨(Nat.le_of_ble_eq_true rfl), (Nat.le_of_ble_eq_true rfl)⟩ rfl rfl (Nat.le_of_ble_eq_true rfl) dL_bestWay_2 ⟨(Nat.le_of_ble_eq_true rfl), (Nat.le_of_ble_eq_true rfl)⟩ ?_
  exact hret _ _ ⟨rfl, rfl⟩ _ _ _ _ _ (Nat.le_of_ble_eq_true rfl) (Nat.le_of_ble_eq_true rfl) dL_bestWay_5
theorem c_L_bestWay (l : Launch) (hl : l.stackTraces = false) (D : va_G) (cy : Nat → ClassId) (ad : Nat → Nat) (μ : Mem) (p : Nat) (hW : WF μ) (hB : PB μ 0) (hp : p < pcn μ) (hch : 0 ≤ μ (5 + 2 * 0) p) : cI l yL_bestWay wsL_bestWay ({ frames := 4, cells := 0, slots := 0, locals := 97 } : Room) D cy ad μ [.ref (ad 0), .int (iZ (p : Int))] (fun (z : Int) (ν : Mem) => z = bst μ 0 p ∧ ν = μ) :=
  m_intH (av := (fun ad => [.ref (ad 0), .int (iZ (p : Int))])) hl (by decide) rfl rfl (Nat.le_of_ble_eq_true rfl) (fun _ _ _ => rfl) (fun X K htb hret => b_L_bestWay p hW hB hp hch K htb hret)
theorem dL_improve_0 : decode cL_improve 0 = .ok (.aload_n 0, 1) := by decide +kernel
theorem dL_improve_1 : decode cL_improve 1 = .ok (.iload_n 1, 1) := by decide +kernel
theorem dL_improve_2 : decode cL_improve 2 = .ok (.invokevirtual 73, 3) := by decide +kernel
set_option maxRecDepth 20000 in
theorem ggL_improve_X7_improve : GoodIn wsL_improve wsX7_improve := goodIn_ca (goodIn_ca (goodIn_ca (goodIn_r _ [9, 10, 11, 12, 13, 14, 15, 16, 8, 17, 18, 19, 20, 21, 22, 23, 24, 25, 26, 27, 28, 29, 30, 31, 32, 33, 34, 35, 36, 37, 38, 39, 40, 41, 42, 43, 44, 45, 46, 47, 48, 49, 50, 51, 52, 53, 54, 55, 56, 57, 58, 59, 60, 61, 62, 63, 64, 65, 66, 67, 68, 69, 70, 71, 72, 73, 74, 75, 76, 77, 78, 79, 80, 81, 82, 83, 84, 85, 86, 87, 88, 89, 90, 91, 92, 93, 94, 95, 96, 97, 98, 99, 100, 101, 102, 103, 104] (by decide +kernel) (by decide +kernel)) (goodIn_sub (fun _ h => List.mem_cons_of_mem _ (List.mem_append_left _ (List.mem_append_left _ (List.mem_append_right _ h)))) (by decide +kernel))) (goodIn_sub (fun _ h => List.mem_cons_of_mem _ (List.mem_append_left _ (List.mem_append_right _ h))) (by decide +kernel))) (goodIn_sub (fun _ h => List.mem_cons_of_mem _ (List.mem_append_right _ h)) (by decide +kernel))
set_option maxRecDepth 20000 in
theorem gL_improve_X7_improve : GoodIn wsL_improve (wsV RL 73 RX7 yX7_improve wsX7_improve) := goodIn_app (goodIn_of _ (by decide +kernel)) ggL_improve_X7_improve
theorem dL_improve_5 : decode cL_improve 5 = .ok (.ireturn, 1) := by decide +kernel
set_option maxHeartbeats 4000000 in
set_option maxRecDepth 100000 in
theorem b_L_improve {X : VC} {μ : Mem} (p : Nat) (hW : WF μ) (hB : PB μ 0) (hp : p < pcn μ) (hak : ask μ 0 p = 1) (K : vK X cL_improve 3 RL wsL_improve ({ frames := 5, cells := 0, slots := 0, locals := 120 } : Room)) (htb : X.2.2.1.2.1.exceptionTable.toList = [(0, 5, 6, 28), (0, 5, 10, 30)].map (fun x : Nat × Nat × Nat × Nat => (⟨x.1, x.2.1, x.2.2.1, x.2.2.2⟩ : ExceptionTableEntry))) (hret : ∀ (z : Int) (ν : Mem), (fun (z : Int) (ν : Mem) => z = gn μ 0 p ∧ TK μ ν 0 p (bst μ 0 p)) z ν → ∀ n pc k1 k2 lv, k1 ≤ 0 → k2 ≤ 0 → decode cL_improve pc = .ok (.ireturn, 1) → vW X n pc k1 k2 lv [.int (iZ z)] ν) : vW X 3 0 0 0 [(0, .ref (vAd X 0)), (1, .int (iZ (p : Int)))] [] μ := by
  refine v_aload_n 0 K dL_improve_0 rfl ?_
  refine v_iload_n 1 K dL_improve_1 rfl ?_
  refine v_callVi (c := 0) (As := [.int (iZ (p : Int))]) (rest := []) K isO_SJ rfl 1 (c_X7_improve X.1.2.1 K.2.2.2.2.2.2 _ _ _ μ p hW hB hp hak) gL_improve_X7_improve rfl rfl rfl (by decide +kernel) ⟨(Nat.le_of_ble_eq_true rfl), (Nat.le_of_ble_eq_true rfl)⟩ rfl rfl (Nat.le_of_ble_eq_true rfl) dL_improve_2 ⟨(Nat.le_of_ble_eq_true rfl), (Nat.le_of_ble_eq_true rfl)⟩ (fun z2 ν q2 => ?_)
  exact hret _ _ q2 _ _ _ _ _ (Nat.le_of_ble_eq_true rfl) (Nat.le_of_ble_eq_true rfl) dL_improve_5
theorem c_L_improve (l : Launch) (hl : l.stackTraces = false) (D : va_G) (cy : Nat → ClassId) (ad : Nat → Nat) (μ : Mem) (p : Nat) (hW : WF μ) (hB : PB μ 0) (hp : p < pcn μ) (hak : ask μ 0 p = 1) : cI l yL_improve wsL_improve ({ frames := 5, cells := 0, slots := 0, locals := 120 } : Room) D cy ad μ [.ref (ad 0), .int (iZ (p : Int))] (fun (z : Int) (ν : Mem) => z = gn μ 0 p ∧ TK μ ν 0 p (bst μ 0 p)) :=
  m_intH (av := (fun ad => [.ref (ad 0), .int (iZ (p : Int))])) hl (by decide) rfl rfl (Nat.le_of_ble_eq_true rfl) (fun _ _ _ => rfl) (fun X K htb hret => b_L_improve p hW hB hp hak K htb hret)
theorem dL_improve_10 : decode cL_improve 10 = .ok (.astore_n 2, 1) := by decide +kernel
theorem dL_improve_11 : decode cL_improve 11 = .ok (.ldc 20, 2) := by decide +kernel
theorem dL_improve_13 : decode cL_improve 13 = .ok (.ireturn, 1) := by decide +kernel
set_option maxHeartbeats 4000000 in
set_option maxRecDepth 100000 in
theorem b_L_improveT {X : VC} {μ : Mem} (p : Nat) (hW : WF μ) (hB : PB μ 0) (hp : p < pcn μ) (hak : ask μ 0 p = 0) (K : vK X cL_improve 3 RL wsL_improve ({ frames := 7, cells := 1, slots := 6, locals := 104 } : Room)) (htb : X.2.2.1.2.1.exceptionTable.toList = [(0, 5, 6, 28), (0, 5, 10, 30)].map (fun x : Nat × Nat × Nat × Nat => (⟨x.1, x.2.1, x.2.2.1, x.2.2.2⟩ : ExceptionTableEntry))) (hret : ∀ (z : Int) (ν : Mem), (fun (z : Int) (ν : Mem) => z = (-900002) ∧ ν = μ) z ν → ∀ n pc k1 k2 lv, k1 ≤ 1 → k2 ≤ 6 → decode cL_improve pc = .ok (.ireturn, 1) → vW X n pc k1 k2 lv [.int (iZ z)] ν) : vW X 3 0 0 0 [(0, .ref (vAd X 0)), (1, .int (iZ (p : Int)))] [] μ := by
  refine v_aload_n 0 K dL_improve_0 rfl ?_
  refine v_iload_n 1 K dL_improve_1 rfl ?_
  refine v_callVCi (c := 0) (As := [.int (iZ (p : Int))]) (rest := []) (E := "java/lang/UnsupportedOperationException") (name := "java/lang/UnsupportedOperationException") [(⟨0, 5, 6, 28⟩ : ExceptionTableEntry)] (⟨0, 5, 10, 30⟩ : ExceptionTableEntry) [] htb (List.forall_mem_cons.mpr ⟨Or.inr ⟨by decide, "java/lang/IndexOutOfBoundsException", K.1.2.2.2.2.1 _ (List.mem_cons_of_mem _ (List.mem_append_left _ (List.mem_append_left _ (List.mem_append_left _ (List.mem_append_left _ (List.mem_append_left _ (List.mem_append_left _ (List.mem_append_left _ (List.mem_append_left _ (List.mem_append_left _ (List.mem_of_getElem? (i := 0) rfl))))))))))), exP.nc K.2.2.2.2.2.1 "java/lang/UnsupportedOperationException" "java/lang/IndexOutOfBoundsException" (by decide +kernel) (by decide +kernel) (by decide +kernel)⟩, (fun _ h => absurd h List.not_mem_nil)⟩) rfl (by decide) (List.mem_cons_of_mem _ (List.mem_append_left _ (List.mem_append_left _ (List.mem_append_left _ (List.mem_append_left _ (List.mem_append_left _ (List.mem_append_left _ (List.mem_append_left _ (List.mem_append_left _ (List.mem_append_left _ (List.mem_of_getElem? (i := 1) rfl))))))))))) ⟨rfl, by decide +kernel⟩ K isO_SJ rfl 1 (c_X7_improveT X.1.2.1 K.2.2.2.2.2.2 _ _ _ μ p hW hB hp hak) gL_improve_X7_improve rfl rfl rfl (by decide +kernel) ⟨(Nat.le_of_ble_eq_true rfl), (Nat.le_of_ble_eq_true rfl)⟩ rfl rfl (Nat.le_of_ble_eq_true rfl) dL_improve_2 ⟨(Nat.le_of_ble_eq_true rfl), (Nat.le_of_ble_eq_true rfl)⟩ (fun q9 => ?_)
  refine v_astore_n [(2, .ref q9), (0, .ref (vAd X 0)), (1, .int (iZ (p : Int)))] K dL_improve_10 (by decide) rfl ?_
  refine v_ldc (v := (-900002)) (n := (-900002)) K (List.mem_cons_of_mem _ (List.mem_append_left _ (List.mem_append_left _ (List.mem_append_left _ (List.mem_append_left _ (List.mem_append_left _ (List.mem_append_left _ (List.mem_append_left _ (List.mem_append_left _ (List.mem_append_left _ (List.mem_of_getElem? (i := 3) rfl))))))))))) dL_improve_11 (by decide) ?_
  exact hret _ _ ⟨rfl, rfl⟩ _ _ _ _ _ (Nat.le_of_ble_eq_true rfl) (Nat.le_of_ble_eq_true rfl) dL_improve_13
theorem c_L_improveT (l : Launch) (hl : l.stackTraces = false) (D : va_G) (cy : Nat → ClassId) (ad : Nat → Nat) (μ : Mem) (p : Nat) (hW : WF μ) (hB : PB μ 0) (hp : p < pcn μ) (hak : ask μ 0 p = 0) : cI l yL_improve wsL_improve ({ frames := 7, cells := 1, slots := 6, locals := 104 } : Room) D cy ad μ [.ref (ad 0), .int (iZ (p : Int))] (fun (z : Int) (ν : Mem) => z = (-900002) ∧ ν = μ) :=
  m_intH (av := (fun ad => [.ref (ad 0), .int (iZ (p : Int))])) hl (by decide) rfl rfl (Nat.le_of_ble_eq_true rfl) (fun _ _ _ => rfl) (fun X K htb hret => b_L_improveT p hW hB hp hak K htb hret)
theorem dL_run_0 : decode cL_run 0 = .ok (.aload_n 0, 1) := by decide +kernel
theorem dL_run_1 : decode cL_run 1 = .ok (.iload_n 1, 1) := by decide +kernel
theorem dL_run_2 : decode cL_run 2 = .ok (.iload_n 2, 1) := by decide +kernel
theorem dL_run_3 : decode cL_run 3 = .ok (.invokevirtual 76, 3) := by decide +kernel
set_option maxRecDepth 20000 in
theorem ggL_run_X7_run : GoodIn wsL_run wsX7_run := goodIn_ca (goodIn_ca (goodIn_r _ [7, 8, 9, 10, 11, 12, 13, 14, 6, 15, 16, 17, 18, 19, 20, 21, 22, 23, 24, 25, 26, 27, 28, 29, 30, 31, 32, 33, 34, 35, 36, 37, 38, 39, 40, 41, 42, 43, 44, 45, 46, 47, 48, 49, 50, 51, 52, 53, 54, 55, 56, 57, 58, 59, 60, 61, 62, 63, 64, 65, 66, 67, 68, 69, 70, 71, 72, 73, 74, 75, 76, 77, 78, 79, 80, 81, 82, 83, 84, 85, 86, 87, 88, 89, 90, 91, 92, 93, 94, 95, 96, 97, 98, 99, 100, 101, 102, 103, 104, 105, 106, 107, 108, 109, 110, 111, 112, 113, 114, 115, 116, 117, 118, 119, 120, 121, 122, 123, 124, 125, 126, 127, 128, 129, 130] (by decide +kernel) (by decide +kernel)) (goodIn_sub (fun _ h => List.mem_cons_of_mem _ (List.mem_append_left _ (List.mem_append_right _ h))) (by decide +kernel))) (goodIn_sub (fun _ h => List.mem_cons_of_mem _ (List.mem_append_right _ h)) (by decide +kernel))
set_option maxRecDepth 20000 in
theorem gL_run_X7_run : GoodIn wsL_run (wsV RL 76 RX7 yX7_run wsX7_run) := goodIn_app (goodIn_of _ (by decide +kernel)) ggL_run_X7_run
theorem dL_run_6 : decode cL_run 6 = .ok (.ireturn, 1) := by decide +kernel
set_option maxHeartbeats 4000000 in
set_option maxRecDepth 100000 in
theorem b_L_run {X : VC} {μ : Mem} (k : Int) (m : Int) (hk : k = 103 ∨ k = 114 ∨ k = 122) (hm : 1 ≤ m ∧ m ≤ 200) (hW : WF μ) (hL : PL μ 0) (hz : zOK μ) (K : vK X cL_run 4 RL wsL_run ({ frames := 7, cells := 0, slots := 0, locals := 170 } : Room)) (htb : X.2.2.1.2.1.exceptionTable.toList = [(0, 6, 7, 15)].map (fun x : Nat × Nat × Nat × Nat => (⟨x.1, x.2.1, x.2.2.1, x.2.2.2⟩ : ExceptionTableEntry))) (hret : ∀ (z : Int) (ν : Mem), (fun (z : Int) (ν : Mem) => RUN μ ν k m z) z ν → ∀ n pc k1 k2 lv, k1 ≤ 0 → k2 ≤ 0 → decode cL_run pc = .ok (.ireturn, 1) → vW X n pc k1 k2 lv [.int (iZ z)] ν) : vW X 4 0 0 0 [(0, .ref (vAd X 0)), (1, .int (iZ k)), (2, .int (iZ m))] [] μ := by
  refine v_aload_n 0 K dL_run_0 rfl ?_
  refine v_iload_n 1 K dL_run_1 rfl ?_
  refine v_iload_n 2 K dL_run_2 rfl ?_
  refine v_callVi (c := 0) (As := [.int (iZ k), .int (iZ m)]) (rest := []) K isO_SJ rfl 2 (c_X7_run X.1.2.1 K.2.2.2.2.2.2 _ _ _ μ k m hk hm hW hL hz) gL_run_X7_run rfl rfl rfl (by decide +kernel) ⟨(Nat.le_of_ble_eq_true rfl), (Nat.le_of_ble_eq_true rfl)⟩ rfl rfl (Nat.le_of_ble_eq_true rfl) dL_run_3 ⟨(Nat.le_of_ble_eq_true rfl), (Nat.le_of_ble_eq_true rfl)⟩ (fun z3 ν q3 => ?_)
  exact hret _ _ q3 _ _ _ _ _ (Nat.le_of_ble_eq_true rfl) (Nat.le_of_ble_eq_true rfl) dL_run_6
theorem c_L_run (l : Launch) (hl : l.stackTraces = false) (D : va_G) (cy : Nat → ClassId) (ad : Nat → Nat) (μ : Mem) (k : Int) (m : Int) (hk : k = 103 ∨ k = 114 ∨ k = 122) (hm : 1 ≤ m ∧ m ≤ 200) (hW : WF μ) (hL : PL μ 0) (hz : zOK μ) : cI l yL_run wsL_run ({ frames := 7, cells := 0, slots := 0, locals := 170 } : Room) D cy ad μ [.ref (ad 0), .int (iZ k), .int (iZ m)] (fun (z : Int) (ν : Mem) => RUN μ ν k m z) :=
  m_intH (av := (fun ad => [.ref (ad 0), .int (iZ k), .int (iZ m)])) hl (by decide) rfl rfl (Nat.le_of_ble_eq_true rfl) (fun _ _ _ => rfl) (fun X K htb hret => b_L_run k m hk hm hW hL hz K htb hret)
theorem dL_run_7 : decode cL_run 7 = .ok (.astore_n 3, 1) := by decide +kernel
theorem dL_run_8 : decode cL_run 8 = .ok (.ldc 17, 2) := by decide +kernel
theorem dL_run_10 : decode cL_run 10 = .ok (.ireturn, 1) := by decide +kernel
set_option maxHeartbeats 4000000 in
set_option maxRecDepth 100000 in
theorem b_L_runT {X : VC} {μ : Mem} (k : Int) (m : Int) (hk0 : 0 ≤ k ∧ k ≤ 65535) (hk : k ≠ 103 ∧ k ≠ 114 ∧ k ≠ 122) (K : vK X cL_run 4 RL wsL_run ({ frames := 7, cells := 1, slots := 6, locals := 106 } : Room)) (htb : X.2.2.1.2.1.exceptionTable.toList = [(0, 6, 7, 15)].map (fun x : Nat × Nat × Nat × Nat => (⟨x.1, x.2.1, x.2.2.1, x.2.2.2⟩ : ExceptionTableEntry))) (hret : ∀ (z : Int) (ν : Mem), (fun (z : Int) (ν : Mem) => z = (-900001) ∧ ν = μ) z ν → ∀ n pc k1 k2 lv, k1 ≤ 1 → k2 ≤ 6 → decode cL_run pc = .ok (.ireturn, 1) → vW X n pc k1 k2 lv [.int (iZ z)] ν) : vW X 4 0 0 0 [(0, .ref (vAd X 0)), (1, .int (iZ k)), (2, .int (iZ m))] [] μ := by
  refine v_aload_n 0 K dL_run_0 rfl ?_
  refine v_iload_n 1 K dL_run_1 rfl ?_
  refine v_iload_n 2 K dL_run_2 rfl ?_
  refine v_callVCi (c := 0) (As := [.int (iZ k), .int (iZ m)]) (rest := []) (E := "java/lang/IllegalArgumentException") (name := "java/lang/IllegalArgumentException") [] (⟨0, 6, 7, 15⟩ : ExceptionTableEntry) [] htb (fun _ h => absurd h List.not_mem_nil) rfl (by decide) (List.mem_cons_of_mem _ (List.mem_append_left _ (List.mem_append_left _ (List.mem_append_left _ (List.mem_append_left _ (List.mem_append_left _ (List.mem_append_left _ (List.mem_append_left _ (List.mem_append_left _ (List.mem_of_getElem? (i := 0) rfl)))))))))) ⟨rfl, by decide +kernel⟩ K isO_SJ rfl 2 (c_X7_runT X.1.2.1 K.2.2.2.2.2.2 _ _ _ μ k m hk0 hk) gL_run_X7_run rfl rfl rfl (by decide +kernel) ⟨(Nat.le_of_ble_eq_true rfl), (Nat.le_of_ble_eq_true rfl)⟩ rfl rfl (Nat.le_of_ble_eq_true rfl) dL_run_3 ⟨(Nat.le_of_ble_eq_true rfl), (Nat.le_of_ble_eq_true rfl)⟩ (fun q9 => ?_)
  refine v_astore_n [(3, .ref q9), (0, .ref (vAd X 0)), (1, .int (iZ k)), (2, .int (iZ m))] K dL_run_7 (by decide) rfl ?_
  refine v_ldc (v := (-900001)) (n := (-900001)) K (List.mem_cons_of_mem _ (List.mem_append_left _ (List.mem_append_left _ (List.mem_append_left _ (List.mem_append_left _ (List.mem_append_left _ (List.mem_append_left _ (List.mem_append_left _ (List.mem_append_left _ (List.mem_of_getElem? (i := 1) rfl)))))))))) dL_run_8 (by decide) ?_
  exact hret _ _ ⟨rfl, rfl⟩ _ _ _ _ _ (Nat.le_of_ble_eq_true rfl) (Nat.le_of_ble_eq_true rfl) dL_run_10
theorem c_L_runT (l : Launch) (hl : l.stackTraces = false) (D : va_G) (cy : Nat → ClassId) (ad : Nat → Nat) (μ : Mem) (k : Int) (m : Int) (hk0 : 0 ≤ k ∧ k ≤ 65535) (hk : k ≠ 103 ∧ k ≠ 114 ∧ k ≠ 122) : cI l yL_run wsL_run ({ frames := 7, cells := 1, slots := 6, locals := 106 } : Room) D cy ad μ [.ref (ad 0), .int (iZ k), .int (iZ m)] (fun (z : Int) (ν : Mem) => z = (-900001) ∧ ν = μ) :=
  m_intH (av := (fun ad => [.ref (ad 0), .int (iZ k), .int (iZ m)])) hl (by decide) rfl rfl (Nat.le_of_ble_eq_true rfl) (fun _ _ _ => rfl) (fun X K htb hret => b_L_runT k m hk0 hk K htb hret)
set_option maxHeartbeats 4000000 in
set_option maxRecDepth 100000 in
theorem b_L_runT2 {X : VC} {μ : Mem} (m : Int) (hm : 200 < m ∧ m ≤ 1000) (K : vK X cL_run 4 RL wsL_run ({ frames := 8, cells := 1, slots := 6, locals := 129 } : Room)) (htb : X.2.2.1.2.1.exceptionTable.toList = [(0, 6, 7, 15)].map (fun x : Nat × Nat × Nat × Nat => (⟨x.1, x.2.1, x.2.2.1, x.2.2.2⟩ : ExceptionTableEntry))) (hret : ∀ (z : Int) (ν : Mem), (fun (z : Int) (ν : Mem) => z = (-900001) ∧ ν = μ) z ν → ∀ n pc k1 k2 lv, k1 ≤ 1 → k2 ≤ 6 → decode cL_run pc = .ok (.ireturn, 1) → vW X n pc k1 k2 lv [.int (iZ z)] ν) : vW X 4 0 0 0 [(0, .ref (vAd X 0)), (1, .int (iZ 114)), (2, .int (iZ m))] [] μ := by
  refine v_aload_n 0 K dL_run_0 rfl ?_
  refine v_iload_n 1 K dL_run_1 rfl ?_
  refine v_iload_n 2 K dL_run_2 rfl ?_
  refine v_callVCi (c := 0) (As := [.int (iZ 114), .int (iZ m)]) (rest := []) (E := "java/lang/IllegalArgumentException") (name := "java/lang/IllegalArgumentException") [] (⟨0, 6, 7, 15⟩ : ExceptionTableEntry) [] htb (fun _ h => absurd h List.not_mem_nil) rfl (by decide) (List.mem_cons_of_mem _ (List.mem_append_left _ (List.mem_append_left _ (List.mem_append_left _ (List.mem_append_left _ (List.mem_append_left _ (List.mem_append_left _ (List.mem_append_left _ (List.mem_append_left _ (List.mem_of_getElem? (i := 0) rfl)))))))))) ⟨rfl, by decide +kernel⟩ K isO_SJ rfl 2 (c_X7_runT2 X.1.2.1 K.2.2.2.2.2.2 _ _ _ μ m hm) gL_run_X7_run rfl rfl rfl (by decide +kernel) ⟨(Nat.le_of_ble_eq_true rfl), (Nat.le_of_ble_eq_true rfl)⟩ rfl rfl (Nat.le_of_ble_eq_true rfl) dL_run_3 ⟨(Nat.le_of_ble_eq_true rfl), (Nat.le_of_ble_eq_true rfl)⟩ (fun q9 => ?_)
  refine v_astore_n [(3, .ref q9), (0, .ref (vAd X 0)), (1, .int (iZ 114)), (2, .int (iZ m))] K dL_run_7 (by decide) rfl ?_
  refine v_ldc (v := (-900001)) (n := (-900001)) K (List.mem_cons_of_mem _ (List.mem_append_left _ (List.mem_append_left _ (List.mem_append_left _ (List.mem_append_left _ (List.mem_append_left _ (List.mem_append_left _ (List.mem_append_left _ (List.mem_append_left _ (List.mem_of_getElem? (i := 1) rfl)))))))))) dL_run_8 (by decide) ?_
  exact hret _ _ ⟨rfl, rfl⟩ _ _ _ _ _ (Nat.le_of_ble_eq_true rfl) (Nat.le_of_ble_eq_true rfl) dL_run_10
theorem c_L_runT2 (l : Launch) (hl : l.stackTraces = false) (D : va_G) (cy : Nat → ClassId) (ad : Nat → Nat) (μ : Mem) (m : Int) (hm : 200 < m ∧ m ≤ 1000) : cI l yL_run wsL_run ({ frames := 8, cells := 1, slots := 6, locals := 129 } : Room) D cy ad μ [.ref (ad 0), .int (iZ 114), .int (iZ m)] (fun (z : Int) (ν : Mem) => z = (-900001) ∧ ν = μ) :=
  m_intH (av := (fun ad => [.ref (ad 0), .int (iZ 114), .int (iZ m)])) hl (by decide) rfl rfl (Nat.le_of_ble_eq_true rfl) (fun _ _ _ => rfl) (fun X K htb hret => b_L_runT2 m hm K htb hret)
theorem dL_setSeed_0 : decode cL_setSeed 0 = .ok (.aload_n 0, 1) := by decide +kernel
theorem dL_setSeed_1 : decode cL_setSeed 1 = .ok (.iload_n 1, 1) := by decide +kernel
theorem dL_setSeed_2 : decode cL_setSeed 2 = .ok (.invokevirtual 80, 3) := by decide +kernel
set_option maxRecDepth 20000 in
theorem ggL_setSeed_X7_setSeed : GoodIn wsL_setSeed wsX7_setSeed := goodIn_ca (goodIn_r _ [7, 8, 9, 10, 11, 12, 6, 13, 14, 15, 16, 17, 18, 19, 20, 21, 22] (by decide +kernel) (by decide +kernel)) (goodIn_sub (fun _ h => List.mem_cons_of_mem _ (List.mem_append_right _ h)) (by decide +kernel))
set_option maxRecDepth 20000 in
theorem gL_setSeed_X7_setSeed : GoodIn wsL_setSeed (wsV RL 80 RX7 yX7_setSeed wsX7_setSeed) := goodIn_app (goodIn_of _ (by decide +kernel)) ggL_setSeed_X7_setSeed
theorem dL_setSeed_5 : decode cL_setSeed 5 = .ok (.ireturn, 1) := by decide +kernel
set_option maxHeartbeats 4000000 in
set_option maxRecDepth 100000 in
theorem b_L_setSeed {X : VC} {μ : Mem} (n : Int) (h : 1 ≤ n ∧ n ≤ 2147483646) (K : vK X cL_setSeed 3 RL wsL_setSeed ({ frames := 2, cells := 0, slots := 0, locals := 45 } : Room)) (htb : X.2.2.1.2.1.exceptionTable.toList = [(0, 5, 6, 15)].map (fun x : Nat × Nat × Nat × Nat => (⟨x.1, x.2.1, x.2.2.1, x.2.2.2⟩ : ExceptionTableEntry))) (hret : ∀ (z : Int) (ν : Mem), (fun (z : Int) (ν : Mem) => z = μ 0 6 ∧ ν = upM μ 0 6 n) z ν → ∀ n pc k1 k2 lv, k1 ≤ 0 → k2 ≤ 0 → decode cL_setSeed pc = .ok (.ireturn, 1) → vW X n pc k1 k2 lv [.int (iZ z)] ν) : vW X 3 0 0 0 [(0, .ref (vAd X 0)), (1, .int (iZ n))] [] μ := by
  refine v_aload_n 0 K dL_setSeed_0 rfl ?_
  refine v_iload_n 1 K dL_setSeed_1 rfl ?_
  refine v_callVi (c := 0) (As := [.int (iZ n)]) (rest := []) K isO_SJ rfl 1 (c_X7_setSeed X.1.2.1 K.2.2.2.2.2.2 _ _ _ μ n h) gL_setSeed_X7_setSeed rfl rfl rfl (by decide +kernel) ⟨(Nat.le_of_ble_eq_true rfl), (Nat.le_of_ble_eq_true rfl)⟩ rfl rfl (Nat.le_of_ble_eq_true rfl) dL_setSeed_2 ⟨(Nat.le_of_ble_eq_true rfl), (Nat.le_of_ble_eq_true rfl)⟩ (fun z2 ν q2 => ?_)
  exact hret _ _ q2 _ _ _ _ _ (Nat.le_of_ble_eq_true rfl) (Nat.le_of_ble_eq_true rfl) dL_setSeed_5
theorem c_L_setSeed (l : Launch) (hl : l.stackTraces = false) (D : va_G) (cy : Nat → ClassId) (ad : Nat → Nat) (μ : Mem) (n : Int) (h : 1 ≤ n ∧ n ≤ 2147483646) : cI l yL_setSeed wsL_setSeed ({ frames := 2, cells := 0, slots := 0, locals := 45 } : Room) D cy ad μ [.ref (ad 0), .int (iZ n)] (fun (z : Int) (ν : Mem) => z = μ 0 6 ∧ ν = upM μ 0 6 n) :=
  m_intH (av := (fun ad => [.ref (ad 0), .int (iZ n)])) hl (by decide) rfl rfl (Nat.le_of_ble_eq_true rfl) (fun _ _ _ => rfl) (fun X K htb hret => b_L_setSeed n h K htb hret)
theorem dL_setSeed_6 : decode cL_setSeed 6 = .ok (.astore_n 2, 1) := by decide +kernel
theorem dL_setSeed_7 : decode cL_setSeed 7 = .ok (.ldc 17, 2) := by decide +kernel
theorem dL_setSeed_9 : decode cL_setSeed 9 = .ok (.ireturn, 1) := by decide +kernel
set_option maxHeartbeats 4000000 in
set_option maxRecDepth 100000 in
theorem b_L_setSeedT {X : VC} {μ : Mem} (n : Int) (h : -1000 ≤ n ∧ n < 1) (K : vK X cL_setSeed 3 RL wsL_setSeed ({ frames := 8, cells := 1, slots := 6, locals := 127 } : Room)) (htb : X.2.2.1.2.1.exceptionTable.toList = [(0, 5, 6, 15)].map (fun x : Nat × Nat × Nat × Nat => (⟨x.1, x.2.1, x.2.2.1, x.2.2.2⟩ : ExceptionTableEntry))) (hret : ∀ (z : Int) (ν : Mem), (fun (z : Int) (ν : Mem) => z = (-900001) ∧ ν = μ) z ν → ∀ n pc k1 k2 lv, k1 ≤ 1 → k2 ≤ 6 → decode cL_setSeed pc = .ok (.ireturn, 1) → vW X n pc k1 k2 lv [.int (iZ z)] ν) : vW X 3 0 0 0 [(0, .ref (vAd X 0)), (1, .int (iZ n))] [] μ := by
  refine v_aload_n 0 K dL_setSeed_0 rfl ?_
  refine v_iload_n 1 K dL_setSeed_1 rfl ?_
  refine v_callVCi (c := 0) (As := [.int (iZ n)]) (rest := []) (E := "java/lang/IllegalArgumentException") (name := "java/lang/IllegalArgumentException") [] (⟨0, 5, 6, 15⟩ : ExceptionTableEntry) [] htb (fun _ h => absurd h List.not_mem_nil) rfl (by decide) (List.mem_cons_of_mem _ (List.mem_append_left _ (List.mem_append_left _ (List.mem_of_getElem? (i := 0) rfl)))) ⟨rfl, by decide +kernel⟩ K isO_SJ rfl 1 (c_X7_setSeedT X.1.2.1 K.2.2.2.2.2.2 _ _ _ μ n h) gL_setSeed_X7_setSeed rfl rfl rfl (by decide +kernel) ⟨(Nat.le_of_ble_eq_true rfl), (Nat.le_of_ble_eq_true rfl)⟩ rfl rfl (Nat.le_of_ble_eq_true rfl) dL_setSeed_2 ⟨(Nat.le_of_ble_eq_true rfl), (Nat.le_of_ble_eq_true rfl)⟩ (fun q9 => ?_)
  refine v_astore_n [(2, .ref q9), (0, .ref (vAd X 0)), (1, .int (iZ n))] K dL_setSeed_6 (by decide) rfl ?_
  refine v_ldc (v := (-900001)) (n := (-900001)) K (List.mem_cons_of_mem _ (List.mem_append_left _ (List.mem_append_left _ (List.mem_of_getElem? (i := 1) rfl)))) dL_setSeed_7 (by decide) ?_
  exact hret _ _ ⟨rfl, rfl⟩ _ _ _ _ _ (Nat.le_of_ble_eq_true rfl) (Nat.le_of_ble_eq_true rfl) dL_setSeed_9
theorem c_L_setSeedT (l : Launch) (hl : l.stackTraces = false) (D : va_G) (cy : Nat → ClassId) (ad : Nat → Nat) (μ : Mem) (n : Int) (h : -1000 ≤ n ∧ n < 1) : cI l yL_setSeed wsL_setSeed ({ frames := 8, cells := 1, slots := 6, locals := 127 } : Room) D cy ad μ [.ref (ad 0), .int (iZ n)] (fun (z : Int) (ν : Mem) => z = (-900001) ∧ ν = μ) :=
  m_intH (av := (fun ad => [.ref (ad 0), .int (iZ n)])) hl (by decide) rfl rfl (Nat.le_of_ble_eq_true rfl) (fun _ _ _ => rfl) (fun X K htb hret => b_L_setSeedT n h K htb hret)
theorem dL_lead_0 : decode cL_lead 0 = .ok (.aload_n 0, 1) := by decide +kernel
theorem dL_lead_1 : decode cL_lead 1 = .ok (.iload_n 1, 1) := by decide +kernel
theorem dL_lead_2 : decode cL_lead 2 = .ok (.iload_n 2, 1) := by decide +kernel
theorem dL_lead_3 : decode cL_lead 3 = .ok (.invokevirtual 83, 3) := by decide +kernel
set_option maxRecDepth 20000 in
theorem ggL_lead_X7_lead : GoodIn wsL_lead wsX7_lead := goodIn_ca (goodIn_r _ [7, 8, 9, 10, 11, 12, 13, 6, 14, 15, 16, 17, 18, 19, 20, 21, 22, 23, 24, 25, 26, 27, 28, 29, 30, 31, 32, 33, 34] (by decide +kernel) (by decide +kernel)) (goodIn_sub (fun _ h => List.mem_cons_of_mem _ (List.mem_append_right _ h)) (by decide +kernel))
set_option maxRecDepth 20000 in
theorem gL_lead_X7_lead : GoodIn wsL_lead (wsV RL 83 RX7 yX7_lead wsX7_lead) := goodIn_app (goodIn_of _ (by decide +kernel)) ggL_lead_X7_lead
theorem dL_lead_6 : decode cL_lead 6 = .ok (.ifCond .eq 7, 3) := by decide +kernel
theorem dL_lead_13 : decode cL_lead 13 = .ok (.iconst 0, 1) := by decide +kernel
theorem dL_lead_14 : decode cL_lead 14 = .ok (.ireturn, 1) := by decide +kernel
theorem dL_lead_9 : decode cL_lead 9 = .ok (.iconst 1, 1) := by decide +kernel
theorem dL_lead_10 : decode cL_lead 10 = .ok (.goto 4, 3) := by decide +kernel
set_option maxHeartbeats 4000000 in
set_option maxRecDepth 100000 in
theorem b_L_lead {X : VC} {μ : Mem} (p : Nat) (x : Int) (hW : WF μ) (hp : p < pcn μ) (hx : 0 ≤ x ∧ x ≤ 1) (K : vK X cL_lead 4 RL wsL_lead ({ frames := 2, cells := 0, slots := 0, locals := 44 } : Room)) (htb : X.2.2.1.2.1.exceptionTable.toList = [(0, 14, 15, 28)].map (fun x : Nat × Nat × Nat × Nat => (⟨x.1, x.2.1, x.2.2.1, x.2.2.2⟩ : ExceptionTableEntry))) (hret : ∀ (z : Int) (ν : Mem), (fun (z : Int) (ν : Mem) => z = μ (37 + p) 2 ∧ (0 ≤ z ∧ z ≤ 1) ∧ ν = upM μ (37 + p) 2 x) z ν → ∀ n pc k1 k2 lv, k1 ≤ 0 → k2 ≤ 0 → decode cL_lead pc = .ok (.ireturn, 1) → vW X n pc k1 k2 lv [.int (iZ z)] ν) : vW X 4 0 0 0 [(0, .ref (vAd X 0)), (1, .int (iZ (p : Int))), (2, .int (iZ x))] [] μ := by
  refine v_aload_n 0 K dL_lead_0 rfl ?_
  refine v_iload_n 1 K dL_lead_1 rfl ?_
  refine v_iload_n 2 K dL_lead_2 rfl ?_
  refine v_callVi (c := 0) (As := [.int (iZ (p : Int)), .int (iZ x)]) (rest := []) K isO_SJ rfl 2 (c_X7_lead X.1.2.1 K.2.2.2.2.2.2 _ _ _ μ p x hW hp hx) gL_lead_X7_lead rfl rfl rfl (by decide +kernel) ⟨(Nat.le_of_ble_eq_true rfl), (Nat.le_of_ble_eq_true rfl)⟩ rfl rfl (Nat.le_of_ble_eq_true rfl) dL_lead_3 ⟨(Nat.le_of_ble_eq_true rfl), (Nat.le_of_ble_eq_true rfl)⟩ (fun z3 ν q3 => ?_)
  refine v_if_eq 13 K dL_lead_6 (by decide) (by omega) (fun c6 => ?_) (fun c6 => ?_)
  · refine v_iconst K dL_lead_13 ?_
    exact hret _ _ ⟨(by have h9 := q3.2.1; have h8 := q3.1; omega), (by omega), q3.2.2⟩ _ _ _ _ _ (Nat.le_of_ble_eq_true rfl) (Nat.le_of_ble_eq_true rfl) dL_lead_14
  · refine v_iconst K dL_lead_9 ?_
    refine v_goto 14 K dL_lead_10 (by decide) ?_
    exact hret _ _ ⟨(by have h9 := q3.2.1; have h8 := q3.1; omega), (by omega), q3.2.2⟩ _ _ _ _ _ (Nat.le_of_ble_eq_true rfl) (Nat.le_of_ble_eq_true rfl) dL_lead_14
theorem c_L_lead (l : Launch) (hl : l.stackTraces = false) (D : va_G) (cy : Nat → ClassId) (ad : Nat → Nat) (μ : Mem) (p : Nat) (x : Int) (hW : WF μ) (hp : p < pcn μ) (hx : 0 ≤ x ∧ x ≤ 1) : cI l yL_lead wsL_lead ({ frames := 2, cells := 0, slots := 0, locals := 44 } : Room) D cy ad μ [.ref (ad 0), .int (iZ (p : Int)), .int (iZ x)] (fun (z : Int) (ν : Mem) => z = μ (37 + p) 2 ∧ (0 ≤ z ∧ z ≤ 1) ∧ ν = upM μ (37 + p) 2 x) :=
  m_intH (av := (fun ad => [.ref (ad 0), .int (iZ (p : Int)), .int (iZ x)])) hl (by decide) rfl rfl (Nat.le_of_ble_eq_true rfl) (fun _ _ _ => rfl) (fun X K htb hret => b_L_lead p x hW hp hx K htb hret)
