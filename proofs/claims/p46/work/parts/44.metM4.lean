theorem dL_law_1814 : decode cL_law 1814 = .ok (.iload 7, 2) := by decide +kernel
theorem dL_law_1816 : decode cL_law 1816 = .ok (.ifCond .eq 35, 3) := by decide +kernel
theorem dL_law_1819 : decode cL_law 1819 = .ok (.aload_n 1, 1) := by decide +kernel
theorem dL_law_1820 : decode cL_law 1820 = .ok (.iconst 0, 1) := by decide +kernel
theorem dL_law_1821 : decode cL_law 1821 = .ok (.bipush 19, 2) := by decide +kernel
theorem dL_law_1823 : decode cL_law 1823 = .ok (.invokestatic 176, 3) := by decide +kernel
theorem dL_law_1826 : decode cL_law 1826 = .ok (.ldc 20, 2) := by decide +kernel
theorem dL_law_1828 : decode cL_law 1828 = .ok (.if_icmp .ne 23, 3) := by decide +kernel
theorem dL_law_1831 : decode cL_law 1831 = .ok (.aload_n 1, 1) := by decide +kernel
theorem dL_law_1832 : decode cL_law 1832 = .ok (.iconst 0, 1) := by decide +kernel
theorem dL_law_1833 : decode cL_law 1833 = .ok (.invokestatic 192, 3) := by decide +kernel
set_option maxRecDepth 20000 in
theorem ggL_law_L_countWays : GoodIn wsL_law wsL_countWays := goodIn_ca (goodIn_r _ [507, 179, 4, 508, 509, 510, 2, 511, 18, 289, 290, 198, 199, 200, 201, 189, 190, 168, 602, 603, 604, 605, 606, 607, 608, 609, 610, 611, 612, 643, 644, 645, 646, 647, 648] (by decide +kernel) (by decide +kernel)) (goodIn_sub (fun _ h => List.mem_append_left _ (List.mem_append_left _ (List.mem_append_right _ h))) (by decide +kernel))
set_option maxRecDepth 20000 in
theorem gL_law_L_countWays : GoodIn wsL_law (va_wsS RL 192 yL_countWays wsL_countWays) := goodIn_app (goodIn_of _ (by decide +kernel)) ggL_law_L_countWays
theorem dL_law_1836 : decode cL_law 1836 = .ok (.iconst 3, 1) := by decide +kernel
theorem dL_law_1837 : decode cL_law 1837 = .ok (.if_icmp .ne 14, 3) := by decide +kernel
theorem dL_law_1840 : decode cL_law 1840 = .ok (.aload_n 1, 1) := by decide +kernel
theorem dL_law_1841 : decode cL_law 1841 = .ok (.invokevirtual 194, 3) := by decide +kernel
set_option maxRecDepth 20000 in
theorem ggL_law_X7_isSound : GoodIn wsL_law wsX7_isSound := goodIn_ca (goodIn_r _ [515, 18, 22, 27, 516, 517, 518, 519, 17, 520, 139, 211, 173, 46, 174, 206, 213, 214, 215, 48, 216, 217, 62, 521, 522, 523, 524, 525, 526, 527, 528, 529, 530, 531, 175, 532, 533, 534, 26, 535, 86, 536, 537, 538, 75, 76, 539, 540, 541, 542, 421, 422, 423, 424, 543, 325, 326, 327, 328, 544, 545, 546, 547, 77, 78, 548, 549, 550, 551, 552, 390, 382, 391, 553, 79, 80, 554, 555, 556, 557, 558, 559, 560, 561, 562, 302, 303, 304, 218, 2, 219, 563, 491, 492, 493, 42, 220, 221, 222, 44, 223, 56, 564, 565, 566, 567, 299, 429, 430, 203, 204, 205, 207, 208, 209, 210, 212, 412, 568, 569, 570, 571, 572, 573, 574, 575, 576, 577, 578, 579, 81, 580, 581, 582, 583, 584, 585, 586, 587, 588, 84, 83, 589, 590, 591, 592, 82, 593, 594, 595, 596, 597, 381, 383, 598, 599, 600, 601, 602, 603, 604, 605, 606, 607, 608, 616, 617, 618, 619, 620, 621, 622, 623, 624, 625, 626, 627, 628, 609, 610, 611, 612, 613, 614, 615, 643, 644, 645, 646, 647, 648, 636, 637, 638, 639, 640, 641, 642] (by decide +kernel) (by decide +kernel)) (goodIn_sub (fun _ h => List.mem_append_left _ (List.mem_append_left _ (List.mem_append_left _ (List.mem_append_left _ (List.mem_append_left _ (List.mem_append_right _ h)))))) (by decide +kernel))
set_option maxRecDepth 20000 in
theorem gL_law_X7_isSound : GoodIn wsL_law (wsV RL 194 RX7 yX7_isSound wsX7_isSound) := goodIn_app (goodIn_of _ (by decide +kernel)) ggL_law_X7_isSound
theorem dL_law_1844 : decode cL_law 1844 = .ok (.ifCond .eq 7, 3) := by decide +kernel
theorem dL_law_1847 : decode cL_law 1847 = .ok (.iconst 1, 1) := by decide +kernel
theorem dL_law_1848 : decode cL_law 1848 = .ok (.goto 4, 3) := by decide +kernel
set_option maxHeartbeats 8000000 in
set_option maxRecDepth 100000 in
theorem ge_14 {X : VC} {σ : SX} {μ : Mem} (kc : Nat) (ks : Nat) (s : Nat) (n : Nat) (z : Int) (hkc : kc ≤ 590000) (hks : ks ≤ 7000000) (hst : LST μ s n z) (K : vK X cL_law 28 RL wsL_law rmL) (SJ : lxJ X.2.2.2.1 X.2.1.1 σ) (L1852 : ∀ (ν : Mem), vW X 28 1852 (kc + 60) (ks + 600) [] [.int (iZ 1)] ν) : vW X 28 1814 kc ks [(0, .ref (σ.1.1)), (1, .ref (vAd X 0)), (2, .int (iZ (s : Int))), (3, .int (iZ (n : Int))), (4, .ref (vAd X 49)), (5, .ref (vAd X 50)), (6, .ref (vAd X 51)), (7, .int (iZ 1)), (8, .int (iZ z))] [] μ := by
  obtain ⟨hW, hL, hL1, hR, hz, hz1, hz2⟩ := id hst
  have hs5 := hR.2.2.1
  have hn5 := hR.2.2.2.1
  have hrs := hR.1
  have hrn := hR.2.1
  have hB := hL.PB9 hW
  have h6 := hW.pc6
  have h8 := hW.rc8
  have hpl := hR.2.2.2.2.2 0 (by omega)
  have hwc := hpl.2.2.2.2.2.1
  have hlw : LW μ := fun p hp => ⟨(hR.2.2.2.2.2 p (by omega)).2.2.2.2.2.1, (hR.2.2.2.2.2 p (by omega)).2.2.2.2.1.1, by have := (hR.2.2.2.2.2 p (by omega)).2.2.2.2.1; omega⟩
  have hwb := LST_WB hst
  refine v_iload 7 K dL_law_1814 rfl ?_
  refine v_if_eq 1851 K dL_law_1816 (by decide) (by decide) (fun c1816 => (by exfalso; omega)) (fun c1816 => ?_)
  refine v_aload_n 1 K dL_law_1819 rfl ?_
  refine v_iconst K dL_law_1820 ?_
  refine v_bipush K dL_law_1821 (by decide) ?_
  refine v_eq (lv1 := [(0, .ref (σ.1.1)), (1, .ref (vAd X 0)), (2, .int (iZ (s : Int))), (3, .int (iZ (n : Int))), (4, .ref (vAd X 49)), (5, .ref (vAd X 50)), (6, .ref (vAd X 51)), (7, .int (iZ 1)), (8, .int (iZ z))]) (st1 := [.int (iZ 19), .int (iZ ((0 : Nat) : Int)), .ref (vAd X 0)]) rfl (v_s0 (v_sI (by omega) (v_s0 rfl))) ?_
  refine v_callSWir (As := [.ref (vAd X 0), .int (iZ ((0 : Nat) : Int)), .int (iZ 19)]) (rest := []) K 3 (c_L_getDelayT X.1.2.1 K.2.2.2.2.2.2 _ _ _ μ 0 19 (by omega) (by omega) (by omega)) gL_law_L_getDelay rfl rfl rfl (by decide +kernel) ⟨(Nat.le_of_ble_eq_true rfl), (Nat.le_of_ble_eq_true rfl)⟩ rfl rfl (Nat.le_of_ble_eq_true rfl) dL_law_1823 ⟨(by show kc + 1 ≤ 600258; omega), (by show ks + 6 ≤ 7292426; omega)⟩ ?_
  refine v_ldc (v := (-900002)) (n := (-900002)) K (List.mem_append_left _ (List.mem_append_left _ (List.mem_append_left _ (List.mem_append_left _ (List.mem_append_left _ (List.mem_append_left _ (List.mem_append_left _ (List.mem_append_left _ (List.mem_append_left _ (List.mem_append_left _ (List.mem_append_left _ (List.mem_append_left _ (List.mem_append_left _ (List.mem_append_left _ (List.mem_append_left _ (List.mem_append_left _ (List.mem_append_left _ (List.mem_of_getElem? (i := 5) rfl)))))))))))))))))) dL_law_1826 (by decide) ?_
  refine v_icmp_ne 1851 K dL_law_1828 (by decide) (by decide) (by decide) (fun c1828 => (by exfalso; omega)) (fun c1828 => ?_)
  refine v_aload_n 1 K dL_law_1831 rfl ?_
  refine v_iconst K dL_law_1832 ?_
  refine v_eq (lv1 := [(0, .ref (σ.1.1)), (1, .ref (vAd X 0)), (2, .int (iZ (s : Int))), (3, .int (iZ (n : Int))), (4, .ref (vAd X 49)), (5, .ref (vAd X 50)), (6, .ref (vAd X 51)), (7, .int (iZ 1)), (8, .int (iZ z))]) (st1 := [.int (iZ ((0 : Nat) : Int)), .ref (vAd X 0)]) rfl (v_sI (by omega) (v_s0 rfl)) ?_
  refine v_callSWir (As := [.ref (vAd X 0), .int (iZ ((0 : Nat) : Int))]) (rest := []) K 2 (c_L_countWays X.1.2.1 K.2.2.2.2.2.2 _ _ _ μ 0 (by omega) (by omega)) gL_law_L_countWays rfl rfl rfl (by decide +kernel) ⟨(Nat.le_of_ble_eq_true rfl), (Nat.le_of_ble_eq_true rfl)⟩ rfl rfl (Nat.le_of_ble_eq_true rfl) dL_law_1833 ⟨(by show (kc + 1) + 0 ≤ 600258; omega), (by show (ks + 6) + 0 ≤ 7292426; omega)⟩ ?_
  refine v_iconst K dL_law_1836 ?_
  refine v_icmp_ne 1851 K dL_law_1837 (by decide) (by omega) (by decide) (fun c1837 => (by exfalso; omega)) (fun c1837 => ?_)
  refine v_aload_n 1 K dL_law_1840 rfl ?_
  refine v_callVi (c := 0) (As := []) (rest := []) K isO_SJ rfl 0 (c_X7_isSound X.1.2.1 K.2.2.2.2.2.2 _ _ _ μ (by omega) (by omega) (by omega) (by omega) (by omega)) gL_law_X7_isSound rfl rfl rfl (by decide +kernel) ⟨(Nat.le_of_ble_eq_true rfl), (Nat.le_of_ble_eq_true rfl)⟩ rfl rfl (Nat.le_of_ble_eq_true rfl) dL_law_1841 ⟨(by show (kc + 1) + 0 ≤ 600258; omega), (by show (ks + 6) + 0 ≤ 7292426; omega)⟩ (fun z9 ν1 q1841 => ?_)
  have hz9 : z9 = 1 := q1841
  refine v_if_eq 1851 K dL_law_1844 (by decide) (by omega) (fun c1844 => (by exfalso; omega)) (fun c1844 => ?_)
  refine v_iconst K dL_law_1847 ?_
  refine v_goto 1852 K dL_law_1848 (by decide) ?_
  refine v_sub [] rfl ?_
  refine v_wid (c2 := (kc + 60)) (s2 := (ks + 600)) (by show (kc + 1) ≤ (kc + 60); omega) (by show (ks + 6) ≤ (ks + 600); omega) ?_
  exact L1852  ν1
