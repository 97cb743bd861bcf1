theorem dL_law_1814 : decode cL_law 1814 = .ok (.iload 7, 2) := by decide +kernel
theorem dL_law_1816 : decode cL_law 1816 = .ok (.ifCond .eq 35, 3) := by decide +kernel
theorem dL_law_1819 : decode cL_law 1819 = .ok (.aload_n 1, 1) := by decide +kernel
theorem dL_law_1820 : decode cL_law 1820 = .ok (.iconst 0, 1) := by decide +kernel
theorem dL_law_1821 : decode cL_law 1821 = .ok (.bipush 19, 2) := by decide +kernel
theorem dL_law_1823 : decode cL_law 1823 = .ok (.invokestatic 176, 3) := by decide +kernel
theorem dL_law_1826 : decode cL_law 1826 = .ok (.ldc 20, 2) := by decide +kernel
theorem dL_law_1828 : decode cL_law 1828 = .ok (.if_icmp .ne 23, 3) := by decide +kernel
theorem dL_law_1831 : decode cL_law 1831 = .ok (.aload_n 1, 1) := by decide +kernel
theorem dL_law_1832 : decode cL_law 1832 = .ok (.iconst 0, 1) := by decide +kernel
theorem dL_law_1833 : decode cL_law 1833 = .ok (.invokestatic 192, 3) := by decide +kernel
set_option maxRecDepth 20000 in
theorem ggL_law_L_countWays : GoodIn wsL_law wsL_countWays := goodIn_ca (goodIn_r _ [507, 179, 4, 508, 509, 510, 2, 511, 18, 289, 290, 198, 199, 200, 201, 189, 190, 168, 602, 603, 604, 605, 606, 607, 608, 609, 610, 611, 612, 643, 644, 645, 646, 647, 648] (by decide +kernel) (by decide +kernel)) (goodIn_sub (fun _ h => List.mem_append_left _ (List.mem_append_left _ (List.mem_append_right _ h))) (by decide +kernel))
set_option maxRecDepth 20000 in
theorem gL_law_L_countWays : GoodIn wsL_law (va_wsS RL 192 yL_countWays wsL_countWays) := goodIn_app (goodIn_of _ (by decide +kernel)) ggL_law_L_countWays
theorem dL_law_1836 : decode cL_law 1836 = .ok (.iconst 3, 1) := by decide +kernel
theorem dL_law_1837 : decode cL_law 1837 = .ok (.if_icmp .ne 14, 3) := by decide +kernel
theorem dL_law_1840 : decode cL_law 1840 = .ok (.aload_n 1, 1) := by decide +kernel
theorem dL_law_1841 : decode cL_law 1841 = .ok (.invokevirtual 194, 3) := by decide +kernel
set_option maxRecDepth 20000 in
theorem ggL_law_X7_isSound : GoodIn wsL_law wsX7_isSound := goodIn_ca (goodIn_r _ [515, 18, 22, 27, 516, 517, 518, 519, 17, 520, 139, 211, 173, 46, 174, 206, 213, 214, 215, 48, 216, 217, 62, 521, 522, 523, 524, 525, 526, 527, 528, 529, 530, 531, 175, 532, 533, 534, 26, 535, 86, 536, 537, 538, 75, 76, 539, 540, 541, 542, 421, 422, 423, 424, 543, 325, 326, 327, 328, 544, 545, 546, 547, 77, 78, 548, 549, 550, 551, 552, 390, 382, 391, 553, 79, 80, 554, 555, 556, 557, 558, 559, 560, 561, 562, 302, 303, 304, 218, 2, 219, 563, 491, 492, 493, 42, 220, 221, 222, 44, 223, 56, 564, 565, 566, 567, 299, 429, 430, 203, 204, 205, 207, 208, 209, 210, 212, 412, 568, 569, 570, 571, 572, 573, 574, 575, 576, 577, 578, 579, 81, 580, 581, 582, 583, 584, 585, 586, 587, 588, 84, 83, 589, 590, 591, 592, 82, 593, 594, 595, 596, 597, 381, 383, 598, 599, 600, 601, 602, 603, 604, 605, 606, 607, 608, 616, 617, 618, 619, 620, 621, 622, 623, 624, 625, 626, 627, 628, 609, 610, 611, 612, 613, 614, 615, 643, 644, 645, 646, 647, 648, 636, 637, 638, 639, 640, 641, 642] (by decide +kernel) (by decide +kernel)) (goodIn_sub (fun _ h => List.mem_append_left _ (List.mem_append_left _ (List.mem_append_left _ (List.mem_append_left _ (List.mem_append_left _ (List.mem_append_right _ h)))))) (by decide +kernel))
set_option maxRecDepth 20000 in
theorem gL_law_X7_isSound : GoodIn wsL_law (wsV RL 194 RX7 yX7_isSound wsX7_isSound) := goodIn_app (goodIn_of _ (by decide +kernel)) ggL_law_X7_isSound
theorem dL_law_1844 : decode cL_law 1844 = .ok (.ifCond .eq 7, 3) := by decide +kernel
theorem dL_law_1847 : decode cL_law 1847 = .ok (.iconst 1, 1) := by decide +kernel
theorem dL_law_1848 : decode cL_law 1848 = .ok (.goto 4, 3) := by decide +kernel
set_option maxHeartbeats 8000000 in
set_option maxRecDepth 100000 in
theorem ge_14 {X : VC} {σ : SX} {μ : Mem} (kc : Nat) (ks : Nat) (s : Nat) (n : Nat) (z : Int) (hkc : kc ≤ 590000) (hks : ks ≤ 7000000) (hst : LST μ s n z) (K : vK X cL_law 28 RL wsL_law rmL) (SJ : lxJ X.2.2.2.1 X.2.1.1 σ) (L1852 : ∀ (ν : Mem), vW X 28 1852 (kc + 60) (ks + 600) [] [.int (iZ 1)] ν) : vW X 28 1814 kc ks [(0, .ref (σ.1.1)), (1, .ref (vAd X 0)), (2, .int (iZ (s : Int))), (3, .int (iZ (n : Int))), (4, .ref (vAd X 49)), (5, .ref (vAd X 50)), (6, .ref (vAd X 51)), (7, .int (iZ 1)), (8, .int (iZ z))] [] μ := by
  obtain ⟨hW, hL, hL1, hR, hz, hz1, hz2⟩ := id hst
  have hs5 := hR.2.2.1
  have hn5 := hR.2.2.2.1
  have hrs := hR.1
  have hrn := hR.2.1
  have hB := hL.PB9 hW
  have h6 := hW.pc6
  have h8 := hW.rc8
  have hpl := hR.2.2.2.2.2 0 (by omega)
  have hwc := hpl.2.2.2.2.2.1
  have hlw : LW μ := fun p hp => ⟨(hR.2.2.2.2.2 p (by omega)).2.2.2.2.2.1, (hR.2.2.2.2.2 p (by omega)).2.2.2.2.1.1, by have := (hR.2.2.2.2.2 p (by omega)).2.2.2.2.1; omega⟩
  have hwb := LST_WB hst
  refine v_iload 7 K dL_law_1814 rfl ?_
  refine v_if_eq 1851 K dL_law_1816 (by decide) (by decide) (fun c1816 => (by exfalso; omega)) (fun c1816 => ?_)
  refine v_aload_n 1 K dL_law_1819 rfl ?_
  refine v_iconst K dL_law_1820 ?_
  refine v_bipush K dL_law_1821 (by decide) ?_
  refine v_eq (lv1 := [(0, .ref (σ.1.1)), (1, .ref (vAd X 0)), (2, .int (iZ (s : Int))), (3, .int (iZ (n : Int))), (4, .ref (vAd X 49)), (5, .ref (vAd X 50)), (6, .ref (vAd X 51)), (7, .int (iZ 1)), (8, .int (iZ z))]) (st1 := [.int (iZ 19), .int (iZ ((0 : Nat) : Int)), .ref (vAd X 0)]) rfl (v_s0 (v_sI (by omega) (v_s0 rfl))) ?_
  refine v_callSWir (As := [.ref (vAd X 0), .int (iZ ((0 : Nat) : Int)), .int (iZ 19)]) (rest := []) K 3 (c_L_getDelayT X.1.2.1 K.2.2.2.2.2.2 _ _ _ μ 0 19 (by omega) (by omega) (by omega)) gL_law_L_getDelay rfl rfl rfl (by decide +kernel) ⟨(Nat.le_of_ble_eq_true rfl), (Nat.le_of_ble_eq_true rfl)⟩ rfl rfl (Nat.le_of_ble_eq_true rfl) dL_law_1823 ⟨(by show kc + 1 ≤ 600258; omega), (by show ks + 6 ≤ 7292426; omega)⟩ ?_
  refine v_ldc (v := (-900002)) (n := (-900002)) K (List.mem_append_left _ (List.mem_append_left _ (List.mem_append_left _ (List.mem_append_left _ (List.mem_append_left _ (List.mem_append_left _ (List.mem_append_left _ (List.mem_append_left _ (List.mem_append_left _ (List.mem_append_left _ (List.mem_append_left _ (List.mem_append_left _ (List.mem_append_left _ (List.mem_append_left _ (List.mem_append_left _ (List.mem_append_left _ (List.mem_append_left _ (List.mem_of_getElem? (i := 5) rfl)))))))))))))))))) dL_law_1826 (by decide) ?_
  refine v_icmp_ne 1851 K dL_law_1828 (by decide) (by decide) (by decide) (fun c1828 => (by exfalso; omega)) (fun c1828 => ?_)
  refine v_aload_n 1 K dL_law_1831 rfl ?_
  refine v_iconst K dL_law_1832 ?_
  refine v_eq (lv1 := [(0, .ref (σ.1.1)), (1, .ref (vAd X 0)), (2, .int (iZ (s : Int))), (3, .int (iZ (n : Int))), (4, .ref (vAd X 49)), (5, .ref (vAd X 50)), (6, .ref (vAd X 51)), (7, .int (iZ 1)), (8, .int (iZ z))]) (st1 := [.int (iZ ((0 : Nat) : Int)), .ref (vAd X 0)]) rfl (v_sI (by omega) (v_s0 rfl)) ?_
  refine v_callSWir (As := [.ref (vAd X 0), .int (iZ ((0 : Nat) : Int))]) (rest := []) K 2 (c_L_countWays X.1.2.1 K.2.2.2.2.2.2 _ _ _ μ 0 (by omega) (by omega)) gL_law_L_countWays rfl rfl rfl (by decide +kernel) ⟨(Nat.le_of_ble_eq_true rfl), (Nat.le_of_ble_eq_true rfl)⟩ rfl rfl (Nat.le_of_ble_eq_true rfl) dL_law_1833 ⟨(by show (kc + 1) + 0 ≤ 600258; omega), (by show (ks + 6) + 0 ≤ 7292426; omega)⟩ ?_
  refine v_iconst K dL_law_1836 ?_
  refine v_icmp_ne 1851 K dL_law_1837 (by decide) (by omega) (by decide) (fun c1837 => (by exfalso; omega)) (fun c1837 => ?_)
  refine v_aload_n 1 K dL_law_1840 rfl ?_
  refine v_callVi (c := 0) (As := []) (rest := []) K isO_SJ rfl 0 (c_X7_isSound X.1.2.1 K.2.2.2.2.2.2 _ _ _ μ (by omega) (by omega) (by omega) (by omega) (by omega)) gL_law_X7_isSound rfl rfl rfl (by decide +kernel) ⟨(Nat.le_of_ble_eq_true rfl), (Nat.le_of_ble_eq_true rfl)⟩ rfl rfl (Nat.le_of_ble_eq_true rfl) dL_law_1841 ⟨(by show (kc + 1) + 0 ≤ 600258; omega), (by show (ks + 6) + 0 ≤ 7292426; omega)⟩ (fun z9 ν1 q1841 => ?_)
  have hz9 : z9 = 1 := q1841
  refine v_if_eq 1851 K dL_law_1844 (by decide) (by omega) (fun c1844 => (by exfalso; omega)) (fun c1844 => ?_)
  refine v_iconst K dL_law_1847 ?_
  refine v_goto 1852 K dL_law_1848 (by decide) ?_
  refine v_sub [] rfl ?_
  refine v_wid (c2 := (kc + 60)) (s2 := (ks + 600)) (by show (kc + 1) ≤ (kc + 60); omega) (by show (ks + 6) ≤ (ks + 600); omega) ?_
  exact L1852  ν1
theorem dL_law_978 : decode cL_law 978 = .ok (.ldc 165, 2) := by decide +kernel
theorem dL_law_980 : decode cL_law 980 = .ok (.iload 12, 2) := by decide +kernel
theorem dL_law_982 : decode cL_law 982 = .ok (.iconst 3, 1) := by decide +kernel
theorem dL_law_983 : decode cL_law 983 = .ok (.irem, 1) := by decide +kernel
theorem dL_law_984 : decode cL_law 984 = .ok (.invokevirtual 111, 3) := by decide +kernel
set_option maxRecDepth 20000 in
theorem ggL_law_J0_charAt_5068e : GoodIn wsL_law wsJ0_charAt_5068e := goodIn_r _ [232, 233, 234, 235, 236, 231, 237, 238, 239, 240, 241, 242, 243, 244, 245, 246, 247, 248, 249, 250, 251, 252, 253, 254, 255, 256, 257, 258, 259, 260, 261, 262, 263, 264, 265, 266, 267, 268, 649, 650] (by decide +kernel) (by decide +kernel)
set_option maxRecDepth 20000 in
theorem gL_law_J0_charAt_5068e : GoodIn wsL_law (wsV RL 111 RJ0 yJ0_charAt_5068e wsJ0_charAt_5068e) := goodIn_app (goodIn_of _ (by decide +kernel)) ggL_law_J0_charAt_5068e
theorem dL_law_987 : decode cL_law 987 = .ok (.istore 13, 2) := by decide +kernel
theorem dL_law_989 : decode cL_law 989 = .ok (.iconst 1, 1) := by decide +kernel
theorem dL_law_990 : decode cL_law 990 = .ok (.iload 12, 2) := by decide +kernel
theorem dL_law_992 : decode cL_law 992 = .ok (.iconst 3, 1) := by decide +kernel
theorem dL_law_993 : decode cL_law 993 = .ok (.idiv, 1) := by decide +kernel
theorem dL_law_994 : decode cL_law 994 = .ok (.bipush 6, 2) := by decide +kernel
theorem dL_law_996 : decode cL_law 996 = .ok (.irem, 1) := by decide +kernel
theorem dL_law_997 : decode cL_law 997 = .ok (.iadd, 1) := by decide +kernel
theorem dL_law_998 : decode cL_law 998 = .ok (.istore 14, 2) := by decide +kernel
theorem dL_law_1000 : decode cL_law 1000 = .ok (.iconst 0, 1) := by decide +kernel
theorem dL_law_1001 : decode cL_law 1001 = .ok (.istore 15, 2) := by decide +kernel
theorem dL_law_1003 : decode cL_law 1003 = .ok (.iconst 0, 1) := by decide +kernel
theorem dL_law_1004 : decode cL_law 1004 = .ok (.istore 16, 2) := by decide +kernel
theorem dL_law_1006 : decode cL_law 1006 = .ok (.iconst 1, 1) := by decide +kernel
theorem dL_law_1007 : decode cL_law 1007 = .ok (.istore 17, 2) := by decide +kernel
theorem dL_law_1009 : decode cL_law 1009 = .ok (.iload 17, 2) := by decide +kernel
theorem dL_law_1011 : decode cL_law 1011 = .ok (.ifCond .eq 438, 3) := by decide +kernel
theorem dL_law_1449 : decode cL_law 1449 = .ok (.iload 7, 2) := by decide +kernel
theorem dL_law_1451 : decode cL_law 1451 = .ok (.aload_n 1, 1) := by decide +kernel
theorem dL_law_1452 : decode cL_law 1452 = .ok (.iload 13, 2) := by decide +kernel
theorem dL_law_1454 : decode cL_law 1454 = .ok (.iload 14, 2) := by decide +kernel
theorem dL_law_1456 : decode cL_law 1456 = .ok (.invokestatic 171, 3) := by decide +kernel
set_option maxRecDepth 20000 in
theorem ggL_law_L_run : GoodIn wsL_law wsL_run := goodIn_ca (goodIn_ca (goodIn_r _ [434, 112, 4, 435, 436, 437, 2, 438, 122, 123, 18, 22, 124, 125, 126, 127, 439, 440, 441, 442, 443, 444, 445, 17, 446, 173, 447, 426, 427, 428, 429, 421, 422, 423, 46, 424, 206, 430, 203, 204, 205, 207, 208, 209, 210, 139, 211, 174, 42, 212, 175, 213, 214, 215, 48, 216, 217, 62, 218, 219, 220, 221, 222, 44, 223, 56, 431, 409, 410, 411, 299, 412, 325, 326, 327, 328, 448, 449, 450, 451, 452, 453, 454, 455, 456, 457, 458, 459, 460, 461, 462, 463, 36, 464, 465, 466, 467, 468, 469, 408, 329, 302, 303, 304, 602, 603, 604, 605, 606, 607, 608, 609, 610, 611, 612, 643, 644, 645, 646, 647, 648, 613, 614, 615, 636, 637, 638, 639, 640, 641, 642] (by decide +kernel) (by decide +kernel)) (goodIn_sub (fun _ h => List.mem_append_left _ (List.mem_append_left _ (List.mem_append_left _ (List.mem_append_left _ (List.mem_append_right _ h))))) (by decide +kernel))) (goodIn_sub (fun _ h => List.mem_append_left _ (List.mem_append_left _ (List.mem_append_left _ (List.mem_append_left _ (List.mem_append_left _ (List.mem_append_right _ h)))))) (by decide +kernel))
set_option maxRecDepth 20000 in
theorem gL_law_L_run : GoodIn wsL_law (va_wsS RL 171 yL_run wsL_run) := goodIn_app (goodIn_of _ (by decide +kernel)) ggL_law_L_run
theorem dL_law_1459 : decode cL_law 1459 = .ok (.iload 15, 2) := by decide +kernel
theorem dL_law_1461 : decode cL_law 1461 = .ok (.if_icmp .ne 33, 3) := by decide +kernel
theorem dL_law_1464 : decode cL_law 1464 = .ok (.aload_n 1, 1) := by decide +kernel
theorem dL_law_1465 : decode cL_law 1465 = .ok (.bipush 120, 2) := by decide +kernel
theorem dL_law_1467 : decode cL_law 1467 = .ok (.iconst 1, 1) := by decide +kernel
theorem dL_law_1468 : decode cL_law 1468 = .ok (.invokestatic 171, 3) := by decide +kernel
theorem dL_law_1471 : decode cL_law 1471 = .ok (.ldc 17, 2) := by decide +kernel
theorem dL_law_1473 : decode cL_law 1473 = .ok (.if_icmp .ne 21, 3) := by decide +kernel
theorem dL_law_1476 : decode cL_law 1476 = .ok (.aload_n 1, 1) := by decide +kernel
theorem dL_law_1477 : decode cL_law 1477 = .ok (.bipush 114, 2) := by decide +kernel
theorem dL_law_1479 : decode cL_law 1479 = .ok (.sipush 201, 3) := by decide +kernel
theorem dL_law_1482 : decode cL_law 1482 = .ok (.invokestatic 171, 3) := by decide +kernel
theorem dL_law_1485 : decode cL_law 1485 = .ok (.ldc 17, 2) := by decide +kernel
theorem dL_law_1487 : decode cL_law 1487 = .ok (.if_icmp .ne 7, 3) := by decide +kernel
theorem dL_law_1490 : decode cL_law 1490 = .ok (.iconst 1, 1) := by decide +kernel
theorem dL_law_1491 : decode cL_law 1491 = .ok (.goto 4, 3) := by decide +kernel
theorem dL_law_1495 : decode cL_law 1495 = .ok (.iand, 1) := by decide +kernel
theorem dL_law_1496 : decode cL_law 1496 = .ok (.istore 7, 2) := by decide +kernel
theorem dL_law_1014 : decode cL_law 1014 = .ok (.iload 15, 2) := by decide +kernel
theorem dL_law_1016 : decode cL_law 1016 = .ok (.iload 14, 2) := by decide +kernel
theorem dL_law_1018 : decode cL_law 1018 = .ok (.if_icmp .ge 431, 3) := by decide +kernel
theorem dL_law_1021 : decode cL_law 1021 = .ok (.iload_n 3, 1) := by decide +kernel
theorem dL_law_1022 : decode cL_law 1022 = .ok (.newarray .int, 2) := by decide +kernel
theorem dL_law_1024 : decode cL_law 1024 = .ok (.astore 18, 2) := by decide +kernel
theorem dL_law_1026 : decode cL_law 1026 = .ok (.iload_n 3, 1) := by decide +kernel
theorem dL_law_1027 : decode cL_law 1027 = .ok (.newarray .int, 2) := by decide +kernel
theorem dL_law_1029 : decode cL_law 1029 = .ok (.astore 19, 2) := by decide +kernel
theorem dL_law_1031 : decode cL_law 1031 = .ok (.iconst 0, 1) := by decide +kernel
theorem dL_law_1032 : decode cL_law 1032 = .ok (.istore 20, 2) := by decide +kernel
theorem dL_law_1034 : decode cL_law 1034 = .ok (.iconst (-1), 1) := by decide +kernel
theorem dL_law_1035 : decode cL_law 1035 = .ok (.istore 21, 2) := by decide +kernel
theorem dL_law_1037 : decode cL_law 1037 = .ok (.iconst (-1), 1) := by decide +kernel
theorem dL_law_1038 : decode cL_law 1038 = .ok (.istore 22, 2) := by decide +kernel
theorem dL_law_1040 : decode cL_law 1040 = .ok (.iconst 0, 1) := by decide +kernel
theorem dL_law_1041 : decode cL_law 1041 = .ok (.istore 23, 2) := by decide +kernel
theorem dL_law_1043 : decode cL_law 1043 = .ok (.iload 23, 2) := by decide +kernel
theorem dL_law_1045 : decode cL_law 1045 = .ok (.iload_n 3, 1) := by decide +kernel
theorem dL_law_1046 : decode cL_law 1046 = .ok (.if_icmp .ge 211, 3) := by decide +kernel
theorem dL_law_1257 : decode cL_law 1257 = .ok (.iconst 0, 1) := by decide +kernel
theorem dL_law_1258 : decode cL_law 1258 = .ok (.istore 23, 2) := by decide +kernel
theorem dL_law_1260 : decode cL_law 1260 = .ok (.iload 23, 2) := by decide +kernel
theorem dL_law_1262 : decode cL_law 1262 = .ok (.iload_n 3, 1) := by decide +kernel
theorem dL_law_1263 : decode cL_law 1263 = .ok (.if_icmp .ge 44, 3) := by decide +kernel
theorem dL_law_1307 : decode cL_law 1307 = .ok (.iload 20, 2) := by decide +kernel
theorem dL_law_1309 : decode cL_law 1309 = .ok (.ifCond .le 7, 3) := by decide +kernel
theorem dL_law_1316 : decode cL_law 1316 = .ok (.iconst 0, 1) := by decide +kernel
theorem dL_law_1317 : decode cL_law 1317 = .ok (.istore 17, 2) := by decide +kernel
theorem dL_law_1319 : decode cL_law 1319 = .ok (.iload 17, 2) := by decide +kernel
theorem dL_law_1321 : decode cL_law 1321 = .ok (.ifCond .eq 125, 3) := by decide +kernel
theorem dL_law_1446 : decode cL_law 1446 = .ok (.goto (-437), 3) := by decide +kernel
theorem dL_law_1312 : decode cL_law 1312 = .ok (.iconst 1, 1) := by decide +kernel
theorem dL_law_1313 : decode cL_law 1313 = .ok (.goto 4, 3) := by decide +kernel
theorem dL_law_1423 : decode cL_law 1423 = .ok (.aload 5, 2) := by decide +kernel
theorem dL_law_1425 : decode cL_law 1425 = .ok (.iconst 4, 1) := by decide +kernel
theorem dL_law_1426 : decode cL_law 1426 = .ok (.iload 23, 2) := by decide +kernel
theorem dL_law_1428 : decode cL_law 1428 = .ok (.imul, 1) := by decide +kernel
theorem dL_law_1429 : decode cL_law 1429 = .ok (.iconst 2, 1) := by decide +kernel
theorem dL_law_1430 : decode cL_law 1430 = .ok (.iadd, 1) := by decide +kernel
theorem dL_law_1431 : decode cL_law 1431 = .ok (.aload 19, 2) := by decide +kernel
theorem dL_law_1433 : decode cL_law 1433 = .ok (.iload 23, 2) := by decide +kernel
theorem dL_law_1435 : decode cL_law 1435 = .ok (.iaload, 1) := by decide +kernel
theorem dL_law_1436 : decode cL_law 1436 = .ok (.iastore, 1) := by decide +kernel
theorem dL_law_1437 : decode cL_law 1437 = .ok (.iload 23, 2) := by decide +kernel
theorem dL_law_1439 : decode cL_law 1439 = .ok (.iconst 1, 1) := by decide +kernel
theorem dL_law_1440 : decode cL_law 1440 = .ok (.iadd, 1) := by decide +kernel
theorem dL_law_1441 : decode cL_law 1441 = .ok (.istore 16, 2) := by decide +kernel
theorem dL_law_1443 : decode cL_law 1443 = .ok (.iinc 15 1, 3) := by decide +kernel
theorem dL_law_1324 : decode cL_law 1324 = .ok (.iload 13, 2) := by decide +kernel
theorem dL_law_1326 : decode cL_law 1326 = .ok (.bipush 114, 2) := by decide +kernel
theorem dL_law_1328 : decode cL_law 1328 = .ok (.if_icmp .ne 8, 3) := by decide +kernel
theorem dL_law_1336 : decode cL_law 1336 = .ok (.iload 21, 2) := by decide +kernel
theorem dL_law_1338 : decode cL_law 1338 = .ok (.istore 23, 2) := by decide +kernel
theorem dL_law_1340 : decode cL_law 1340 = .ok (.iload 13, 2) := by decide +kernel
theorem dL_law_1342 : decode cL_law 1342 = .ok (.bipush 122, 2) := by decide +kernel
theorem dL_law_1344 : decode cL_law 1344 = .ok (.if_icmp .ne 79, 3) := by decide +kernel
theorem dL_law_1347 : decode cL_law 1347 = .ok (.iload 8, 2) := by decide +kernel
theorem dL_law_1349 : decode cL_law 1349 = .ok (.i2l, 1) := by decide +kernel
theorem dL_law_1350 : decode cL_law 1350 = .ok (.ldc2_w 167, 3) := by decide +kernel
theorem dL_law_1353 : decode cL_law 1353 = .ok (.lmul, 1) := by decide +kernel
theorem dL_law_1354 : decode cL_law 1354 = .ok (.ldc2_w 169, 3) := by decide +kernel
theorem dL_law_1357 : decode cL_law 1357 = .ok (.lrem, 1) := by decide +kernel
theorem dL_law_1358 : decode cL_law 1358 = .ok (.l2i, 1) := by decide +kernel
theorem dL_law_1359 : decode cL_law 1359 = .ok (.istore 8, 2) := by decide +kernel
theorem dL_law_1361 : decode cL_law 1361 = .ok (.iload 8, 2) := by decide +kernel
theorem dL_law_1363 : decode cL_law 1363 = .ok (.iload 20, 2) := by decide +kernel
theorem dL_law_1365 : decode cL_law 1365 = .ok (.irem, 1) := by decide +kernel
theorem dL_law_1366 : decode cL_law 1366 = .ok (.istore 24, 2) := by decide +kernel
theorem dL_law_1368 : decode cL_law 1368 = .ok (.iconst 0, 1) := by decide +kernel
theorem dL_law_1369 : decode cL_law 1369 = .ok (.istore 25, 2) := by decide +kernel
theorem dL_law_1371 : decode cL_law 1371 = .ok (.iload 25, 2) := by decide +kernel
theorem dL_law_1373 : decode cL_law 1373 = .ok (.iload_n 3, 1) := by decide +kernel
theorem dL_law_1374 : decode cL_law 1374 = .ok (.if_icmp .ge 49, 3) := by decide +kernel
theorem dL_law_1397 : decode cL_law 1397 = .ok (.istore 23, 2) := by decide +kernel
theorem dL_law_1399 : decode cL_law 1399 = .ok (.iload 24, 2) := by decide +kernel
theorem dL_law_1401 : decode cL_law 1401 = .ok (.aload 18, 2) := by decide +kernel
theorem dL_law_1403 : decode cL_law 1403 = .ok (.iload 25, 2) := by decide +kernel
theorem dL_law_1405 : decode cL_law 1405 = .ok (.iaload, 1) := by decide +kernel
theorem dL_law_1406 : decode cL_law 1406 = .ok (.ifCond .le 7, 3) := by decide +kernel
theorem dL_law_1413 : decode cL_law 1413 = .ok (.iconst 0, 1) := by decide +kernel
theorem dL_law_1414 : decode cL_law 1414 = .ok (.isub, 1) := by decide +kernel
theorem dL_law_1415 : decode cL_law 1415 = .ok (.istore 24, 2) := by decide +kernel
theorem dL_law_1417 : decode cL_law 1417 = .ok (.iinc 25 1, 3) := by decide +kernel
theorem dL_law_1420 : decode cL_law 1420 = .ok (.goto (-49), 3) := by decide +kernel
theorem dL_law_1409 : decode cL_law 1409 = .ok (.iconst 1, 1) := by decide +kernel
theorem dL_law_1410 : decode cL_law 1410 = .ok (.goto 4, 3) := by decide +kernel
theorem dL_law_1377 : decode cL_law 1377 = .ok (.aload 18, 2) := by decide +kernel
theorem dL_law_1379 : decode cL_law 1379 = .ok (.iload 25, 2) := by decide +kernel
theorem dL_law_1381 : decode cL_law 1381 = .ok (.iaload, 1) := by decide +kernel
theorem dL_law_1382 : decode cL_law 1382 = .ok (.ifCond .le 13, 3) := by decide +kernel
theorem dL_law_1395 : decode cL_law 1395 = .ok (.iload 23, 2) := by decide +kernel
theorem dL_law_1385 : decode cL_law 1385 = .ok (.iload 24, 2) := by decide +kernel
theorem dL_law_1387 : decode cL_law 1387 = .ok (.ifCond .ne 8, 3) := by decide +kernel
theorem dL_law_1390 : decode cL_law 1390 = .ok (.iload 25, 2) := by decide +kernel
theorem dL_law_1392 : decode cL_law 1392 = .ok (.goto 5, 3) := by decide +kernel
theorem dL_law_1331 : decode cL_law 1331 = .ok (.iload 22, 2) := by decide +kernel
theorem dL_law_1333 : decode cL_law 1333 = .ok (.goto 5, 3) := by decide +kernel
theorem dL_law_1266 : decode cL_law 1266 = .ok (.aload 18, 2) := by decide +kernel
theorem dL_law_1268 : decode cL_law 1268 = .ok (.iload 23, 2) := by decide +kernel
theorem dL_law_1270 : decode cL_law 1270 = .ok (.iaload, 1) := by decide +kernel
theorem dL_law_1271 : decode cL_law 1271 = .ok (.ifCond .le 26, 3) := by decide +kernel
theorem dL_law_1297 : decode cL_law 1297 = .ok (.iload 21, 2) := by decide +kernel
theorem dL_law_1299 : decode cL_law 1299 = .ok (.istore 21, 2) := by decide +kernel
theorem dL_law_1301 : decode cL_law 1301 = .ok (.iinc 23 1, 3) := by decide +kernel
theorem dL_law_1304 : decode cL_law 1304 = .ok (.goto (-44), 3) := by decide +kernel
theorem dL_law_1274 : decode cL_law 1274 = .ok (.iload 21, 2) := by decide +kernel
theorem dL_law_1276 : decode cL_law 1276 = .ok (.ifCond .lt 16, 3) := by decide +kernel
theorem dL_law_1292 : decode cL_law 1292 = .ok (.iload 23, 2) := by decide +kernel
theorem dL_law_1294 : decode cL_law 1294 = .ok (.goto 5, 3) := by decide +kernel
theorem dL_law_1279 : decode cL_law 1279 = .ok (.aload 18, 2) := by decide +kernel
theorem dL_law_1281 : decode cL_law 1281 = .ok (.iload 23, 2) := by decide +kernel
theorem dL_law_1283 : decode cL_law 1283 = .ok (.iaload, 1) := by decide +kernel
theorem dL_law_1284 : decode cL_law 1284 = .ok (.aload 18, 2) := by decide +kernel
theorem dL_law_1286 : decode cL_law 1286 = .ok (.iload 21, 2) := by decide +kernel
theorem dL_law_1288 : decode cL_law 1288 = .ok (.iaload, 1) := by decide +kernel
theorem dL_law_1289 : decode cL_law 1289 = .ok (.if_icmp .le 8, 3) := by decide +kernel
theorem dL_law_1049 : decode cL_law 1049 = .ok (.iload 16, 2) := by decide +kernel
theorem dL_law_1051 : decode cL_law 1051 = .ok (.iload 23, 2) := by decide +kernel
theorem dL_law_1053 : decode cL_law 1053 = .ok (.iadd, 1) := by decide +kernel
theorem dL_law_1054 : decode cL_law 1054 = .ok (.iload_n 3, 1) := by decide +kernel
theorem dL_law_1055 : decode cL_law 1055 = .ok (.irem, 1) := by decide +kernel
theorem dL_law_1056 : decode cL_law 1056 = .ok (.istore 24, 2) := by decide +kernel
theorem dL_law_1058 : decode cL_law 1058 = .ok (.aload 4, 2) := by decide +kernel
theorem dL_law_1060 : decode cL_law 1060 = .ok (.iload_n 2, 1) := by decide +kernel
theorem dL_law_1061 : decode cL_law 1061 = .ok (.aload 5, 2) := by decide +kernel
theorem dL_law_1063 : decode cL_law 1063 = .ok (.iload_n 3, 1) := by decide +kernel
theorem dL_law_1064 : decode cL_law 1064 = .ok (.iload 24, 2) := by decide +kernel
theorem dL_law_1066 : decode cL_law 1066 = .ok (.invokestatic 102, 3) := by decide +kernel
theorem dL_law_1069 : decode cL_law 1069 = .ok (.istore 25, 2) := by decide +kernel
theorem dL_law_1071 : decode cL_law 1071 = .ok (.aload 19, 2) := by decide +kernel
theorem dL_law_1073 : decode cL_law 1073 = .ok (.iload 24, 2) := by decide +kernel
theorem dL_law_1075 : decode cL_law 1075 = .ok (.aload 5, 2) := by decide +kernel
theorem dL_law_1077 : decode cL_law 1077 = .ok (.iconst 4, 1) := by decide +kernel
theorem dL_law_1078 : decode cL_law 1078 = .ok (.iload 24, 2) := by decide +kernel
theorem dL_law_1080 : decode cL_law 1080 = .ok (.imul, 1) := by decide +kernel
theorem dL_law_1081 : decode cL_law 1081 = .ok (.iconst 2, 1) := by decide +kernel
theorem dL_law_1082 : decode cL_law 1082 = .ok (.iadd, 1) := by decide +kernel
theorem dL_law_1083 : decode cL_law 1083 = .ok (.iaload, 1) := by decide +kernel
theorem dL_law_1084 : decode cL_law 1084 = .ok (.iastore, 1) := by decide +kernel
theorem dL_law_1085 : decode cL_law 1085 = .ok (.iconst 0, 1) := by decide +kernel
theorem dL_law_1086 : decode cL_law 1086 = .ok (.istore 26, 2) := by decide +kernel
theorem dL_law_1088 : decode cL_law 1088 = .ok (.iload 26, 2) := by decide +kernel
theorem dL_law_1090 : decode cL_law 1090 = .ok (.iconst 3, 1) := by decide +kernel
theorem dL_law_1091 : decode cL_law 1091 = .ok (.if_icmp .ge 93, 3) := by decide +kernel
theorem dL_law_1184 : decode cL_law 1184 = .ok (.aload 18, 2) := by decide +kernel
theorem dL_law_1186 : decode cL_law 1186 = .ok (.iload 24, 2) := by decide +kernel
theorem dL_law_1188 : decode cL_law 1188 = .ok (.aload 5, 2) := by decide +kernel
theorem dL_law_1190 : decode cL_law 1190 = .ok (.iconst 4, 1) := by decide +kernel
theorem dL_law_1191 : decode cL_law 1191 = .ok (.iload 24, 2) := by decide +kernel
theorem dL_law_1193 : decode cL_law 1193 = .ok (.imul, 1) := by decide +kernel
theorem dL_law_1194 : decode cL_law 1194 = .ok (.iconst 3, 1) := by decide +kernel
theorem dL_law_1195 : decode cL_law 1195 = .ok (.iadd, 1) := by decide +kernel
theorem dL_law_1196 : decode cL_law 1196 = .ok (.iaload, 1) := by decide +kernel
theorem dL_law_1197 : decode cL_law 1197 = .ok (.iconst 1, 1) := by decide +kernel
theorem dL_law_1198 : decode cL_law 1198 = .ok (.if_icmp .ne 7, 3) := by decide +kernel
theorem dL_law_1205 : decode cL_law 1205 = .ok (.aload 18, 2) := by decide +kernel
theorem dL_law_1207 : decode cL_law 1207 = .ok (.iload 24, 2) := by decide +kernel
theorem dL_law_1209 : decode cL_law 1209 = .ok (.iaload, 1) := by decide +kernel
theorem dL_law_1210 : decode cL_law 1210 = .ok (.iastore, 1) := by decide +kernel
theorem dL_law_1231 : decode cL_law 1231 = .ok (.istore 22, 2) := by decide +kernel
theorem dL_law_1248 : decode cL_law 1248 = .ok (.iadd, 1) := by decide +kernel
theorem dL_law_1249 : decode cL_law 1249 = .ok (.istore 20, 2) := by decide +kernel
theorem dL_law_1251 : decode cL_law 1251 = .ok (.iinc 23 1, 3) := by decide +kernel
theorem dL_law_1254 : decode cL_law 1254 = .ok (.goto (-211), 3) := by decide +kernel
theorem dL_law_1233 : decode cL_law 1233 = .ok (.iload 20, 2) := by decide +kernel
theorem dL_law_1235 : decode cL_law 1235 = .ok (.aload 18, 2) := by decide +kernel
theorem dL_law_1237 : decode cL_law 1237 = .ok (.iload 24, 2) := by decide +kernel
theorem dL_law_1239 : decode cL_law 1239 = .ok (.iaload, 1) := by decide +kernel
theorem dL_law_1240 : decode cL_law 1240 = .ok (.ifCond .le 7, 3) := by decide +kernel
theorem dL_law_1247 : decode cL_law 1247 = .ok (.iconst 0, 1) := by decide +kernel
theorem dL_law_1243 : decode cL_law 1243 = .ok (.iconst 1, 1) := by decide +kernel
theorem dL_law_1244 : decode cL_law 1244 = .ok (.goto 4, 3) := by decide +kernel
theorem dL_law_1211 : decode cL_law 1211 = .ok (.iload 22, 2) := by decide +kernel
theorem dL_law_1213 : decode cL_law 1213 = .ok (.ifCond .ge 16, 3) := by decide +kernel
theorem dL_law_1229 : decode cL_law 1229 = .ok (.iload 22, 2) := by decide +kernel
theorem dL_law_1216 : decode cL_law 1216 = .ok (.aload 18, 2) := by decide +kernel
theorem dL_law_1218 : decode cL_law 1218 = .ok (.iload 24, 2) := by decide +kernel
theorem dL_law_1220 : decode cL_law 1220 = .ok (.iaload, 1) := by decide +kernel
theorem dL_law_1221 : decode cL_law 1221 = .ok (.ifCond .le 8, 3) := by decide +kernel
theorem dL_law_1224 : decode cL_law 1224 = .ok (.iload 24, 2) := by decide +kernel
theorem dL_law_1226 : decode cL_law 1226 = .ok (.goto 5, 3) := by decide +kernel
theorem dL_law_1201 : decode cL_law 1201 = .ok (.iconst 0, 1) := by decide +kernel
theorem dL_law_1202 : decode cL_law 1202 = .ok (.goto 8, 3) := by decide +kernel
theorem dL_law_1094 : decode cL_law 1094 = .ok (.iload 25, 2) := by decide +kernel
theorem dL_law_1096 : decode cL_law 1096 = .ok (.aload 4, 2) := by decide +kernel
theorem dL_law_1098 : decode cL_law 1098 = .ok (.iload_n 2, 1) := by decide +kernel
theorem dL_law_1099 : decode cL_law 1099 = .ok (.aload 5, 2) := by decide +kernel
theorem dL_law_1101 : decode cL_law 1101 = .ok (.iload_n 3, 1) := by decide +kernel
theorem dL_law_1102 : decode cL_law 1102 = .ok (.iload 24, 2) := by decide +kernel
theorem dL_law_1104 : decode cL_law 1104 = .ok (.aload 6, 2) := by decide +kernel
theorem dL_law_1106 : decode cL_law 1106 = .ok (.iconst 3, 1) := by decide +kernel
theorem dL_law_1107 : decode cL_law 1107 = .ok (.iload 24, 2) := by decide +kernel
theorem dL_law_1109 : decode cL_law 1109 = .ok (.imul, 1) := by decide +kernel
theorem dL_law_1110 : decode cL_law 1110 = .ok (.iload 26, 2) := by decide +kernel
theorem dL_law_1112 : decode cL_law 1112 = .ok (.iadd, 1) := by decide +kernel
theorem dL_law_1113 : decode cL_law 1113 = .ok (.iaload, 1) := by decide +kernel
theorem dL_law_1114 : decode cL_law 1114 = .ok (.invokestatic 157, 3) := by decide +kernel
theorem dL_law_1117 : decode cL_law 1117 = .ok (.isub, 1) := by decide +kernel
theorem dL_law_1118 : decode cL_law 1118 = .ok (.istore 27, 2) := by decide +kernel
theorem dL_law_1120 : decode cL_law 1120 = .ok (.aload 19, 2) := by decide +kernel
theorem dL_law_1122 : decode cL_law 1122 = .ok (.iload 24, 2) := by decide +kernel
theorem dL_law_1124 : decode cL_law 1124 = .ok (.iload 27, 2) := by decide +kernel
theorem dL_law_1126 : decode cL_law 1126 = .ok (.aload 18, 2) := by decide +kernel
theorem dL_law_1128 : decode cL_law 1128 = .ok (.iload 24, 2) := by decide +kernel
theorem dL_law_1130 : decode cL_law 1130 = .ok (.iaload, 1) := by decide +kernel
theorem dL_law_1131 : decode cL_law 1131 = .ok (.if_icmp .le 16, 3) := by decide +kernel
theorem dL_law_1147 : decode cL_law 1147 = .ok (.aload 19, 2) := by decide +kernel
theorem dL_law_1149 : decode cL_law 1149 = .ok (.iload 24, 2) := by decide +kernel
theorem dL_law_1151 : decode cL_law 1151 = .ok (.iaload, 1) := by decide +kernel
theorem dL_law_1152 : decode cL_law 1152 = .ok (.iastore, 1) := by decide +kernel
theorem dL_law_1153 : decode cL_law 1153 = .ok (.aload 18, 2) := by decide +kernel
theorem dL_law_1155 : decode cL_law 1155 = .ok (.iload 24, 2) := by decide +kernel
theorem dL_law_1157 : decode cL_law 1157 = .ok (.iload 27, 2) := by decide +kernel
theorem dL_law_1159 : decode cL_law 1159 = .ok (.aload 18, 2) := by decide +kernel
theorem dL_law_1161 : decode cL_law 1161 = .ok (.iload 24, 2) := by decide +kernel
theorem dL_law_1163 : decode cL_law 1163 = .ok (.iaload, 1) := by decide +kernel
theorem dL_law_1164 : decode cL_law 1164 = .ok (.if_icmp .le 8, 3) := by decide +kernel
theorem dL_law_1172 : decode cL_law 1172 = .ok (.aload 18, 2) := by decide +kernel
theorem dL_law_1174 : decode cL_law 1174 = .ok (.iload 24, 2) := by decide +kernel
theorem dL_law_1176 : decode cL_law 1176 = .ok (.iaload, 1) := by decide +kernel
theorem dL_law_1177 : decode cL_law 1177 = .ok (.iastore, 1) := by decide +kernel
theorem dL_law_1178 : decode cL_law 1178 = .ok (.iinc 26 1, 3) := by decide +kernel
theorem dL_law_1181 : decode cL_law 1181 = .ok (.goto (-93), 3) := by decide +kernel
theorem dL_law_1134 : decode cL_law 1134 = .ok (.aload 6, 2) := by decide +kernel
theorem dL_law_1136 : decode cL_law 1136 = .ok (.iconst 3, 1) := by decide +kernel
theorem dL_law_1137 : decode cL_law 1137 = .ok (.iload 24, 2) := by decide +kernel
theorem dL_law_1139 : decode cL_law 1139 = .ok (.imul, 1) := by decide +kernel
theorem dL_law_1140 : decode cL_law 1140 = .ok (.iload 26, 2) := by decide +kernel
theorem dL_law_1142 : decode cL_law 1142 = .ok (.iadd, 1) := by decide +kernel
theorem dL_law_1143 : decode cL_law 1143 = .ok (.iaload, 1) := by decide +kernel
theorem dL_law_1144 : decode cL_law 1144 = .ok (.goto 8, 3) := by decide +kernel
theorem dL_law_1167 : decode cL_law 1167 = .ok (.iload 27, 2) := by decide +kernel
theorem dL_law_1169 : decode cL_law 1169 = .ok (.goto 8, 3) := by decide +kernel
set_option maxHeartbeats 8000000 in
set_option maxRecDepth 100000 in
theorem ga_6 {X : VC} {σ : SX} {μ : Mem} (kc : Nat) (ks : Nat) (s : Nat) (n : Nat) (z : Int) (i : Nat) (a : Int) (p : Nat) (x : Int) (hkc : kc ≤ 590000) (hks : ks ≤ 7000000) (hi : i < 14) (hst : LST μ s n z) (hp : p < n) (hx : 0 ≤ x ∧ x < 10000) (K : vK X cL_law 28 RL wsL_law rmL) (SJ : lxJ X.2.2.2.1 X.2.1.1 σ) (L1498 : ∀ (z : Int) (ν : Mem) (hst : LST ν s n z), vW X 28 1498 (kc + 120) (ks + 900) [(0, .ref (σ.1.1)), (1, .ref (vAd X 0)), (2, .int (iZ (s : Int))), (3, .int (iZ (n : Int))), (4, .ref (vAd X 49)), (5, .ref (vAd X 50)), (6, .ref (vAd X 51)), (7, .int (iZ 1)), (8, .int (iZ z)), (9, .int (iZ (i : Int)))] [] ν) : vW X 28 978 kc ks [(0, .ref (σ.1.1)), (1, .ref (vAd X 0)), (2, .int (iZ (s : Int))), (3, .int (iZ (n : Int))), (4, .ref (vAd X 49)), (5, .ref (vAd X 50)), (6, .ref (vAd X 51)), (7, .int (iZ 1)), (8, .int (iZ z)), (9, .int (iZ (i : Int))), (10, .int (iZ a)), (11, .int (iZ (p : Int))), (12, .int (iZ x))] [] μ := by
  obtain ⟨hW, hL, hL1, hR, hz, hz1, hz2⟩ := id hst
  have hs5 := hR.2.2.1
  have hn5 := hR.2.2.2.1
  have hrs := hR.1
  have hrn := hR.2.1
  have hB := hL.PB9 hW
  have h6 := hW.pc6
  have h8 := hW.rc8
  have hrow := hst.row9 hp
  have hpl := hR.2.2.2.2.2 p hp
  have hwc := hpl.2.2.2.2.2.1
  have hch := hpl.2.2.2.2.1
  have hpW := hW.pl (p := p) (by omega)
  refine v_ldcS K SJ.2.2.2.2.2 dL_law_978 ?_
  refine v_iload 12 K dL_law_980 rfl ?_
  refine v_iconst K dL_law_982 ?_
  refine v_irem (by omega) (by omega) K dL_law_983 ?_
  refine v_chr (σ := σ) K SJ (by omega) gL_law_J0_charAt_5068e ⟨(Nat.le_of_ble_eq_true rfl), (Nat.le_of_ble_eq_true rfl)⟩ (Nat.le_of_ble_eq_true rfl) dL_law_984 ⟨(by show kc + 0 ≤ 600258; omega), (by show ks + 0 ≤ 7292426; omega)⟩ ?_
  obtain ⟨ru, eru⟩ : ∃ ru : Int, ru = (rgc (x % 3)) := ⟨_, rfl⟩
  refine v_top (b := ru) (congrArg iZ eru.symm) ?_
  have hru : ru = 103 ∨ ru = 114 ∨ ru = 122 := by rw [eru]; exact rgc_is (by omega)
  refine v_istore [(13, .int (iZ ru)), (0, .ref (σ.1.1)), (1, .ref (vAd X 0)), (2, .int (iZ (s : Int))), (3, .int (iZ (n : Int))), (4, .ref (vAd X 49)), (5, .ref (vAd X 50)), (6, .ref (vAd X 51)), (7, .int (iZ 1)), (8, .int (iZ z)), (9, .int (iZ (i : Int))), (10, .int (iZ a)), (11, .int (iZ (p : Int))), (12, .int (iZ x))] K dL_law_987 (by decide) rfl ?_
  refine v_iconst K dL_law_989 ?_
  refine v_iload 13 K dL_law_990 rfl ?_
  refine v_iconst K dL_law_992 ?_
  refine v_idiv (by omega) (by omega) K dL_law_993 ?_
  refine v_bipush K dL_law_994 (by decide) ?_
  refine v_irem (by omega) (by omega) K dL_law_996 ?_
  refine v_iadd K dL_law_997 ?_
  obtain ⟨mo, emo⟩ : ∃ mo : Int, mo = (1 + ((x / 3) % 6)) := ⟨_, rfl⟩
  refine v_top (b := mo) (congrArg iZ emo.symm) ?_
  have hmo : 1 ≤ mo ∧ mo ≤ 6 := by omega
  refine v_istore [(14, .int (iZ mo)), (13, .int (iZ ru)), (0, .ref (σ.1.1)), (1, .ref (vAd X 0)), (2, .int (iZ (s : Int))), (3, .int (iZ (n : Int))), (4, .ref (vAd X 49)), (5, .ref (vAd X 50)), (6, .ref (vAd X 51)), (7, .int (iZ 1)), (8, .int (iZ z)), (9, .int (iZ (i : Int))), (10, .int (iZ a)), (11, .int (iZ (p : Int))), (12, .int (iZ x))] K dL_law_998 (by decide) rfl ?_
  refine v_iconst K dL_law_1000 ?_
  refine v_istore [(15, .int (iZ 0)), (14, .int (iZ mo)), (13, .int (iZ ru)), (0, .ref (σ.1.1)), (1, .ref (vAd X 0)), (2, .int (iZ (s : Int))), (3, .int (iZ (n : Int))), (4, .ref (vAd X 49)), (5, .ref (vAd X 50)), (6, .ref (vAd X 51)), (7, .int (iZ 1)), (8, .int (iZ z)), (9, .int (iZ (i : Int))), (10, .int (iZ a)), (11, .int (iZ (p : Int))), (12, .int (iZ x))] K dL_law_1001 (by decide) rfl ?_
  refine v_iconst K dL_law_1003 ?_
  refine v_istore [(16, .int (iZ 0)), (15, .int (iZ 0)), (14, .int (iZ mo)), (13, .int (iZ ru)), (0, .ref (σ.1.1)), (1, .ref (vAd X 0)), (2, .int (iZ (s : Int))), (3, .int (iZ (n : Int))), (4, .ref (vAd X 49)), (5, .ref (vAd X 50)), (6, .ref (vAd X 51)), (7, .int (iZ 1)), (8, .int (iZ z)), (9, .int (iZ (i : Int))), (10, .int (iZ a)), (11, .int (iZ (p : Int))), (12, .int (iZ x))] K dL_law_1004 (by decide) rfl ?_
  refine v_iconst K dL_law_1006 ?_
  refine v_istore [(17, .int (iZ 1)), (16, .int (iZ 0)), (15, .int (iZ 0)), (14, .int (iZ mo)), (13, .int (iZ ru)), (0, .ref (σ.1.1)), (1, .ref (vAd X 0)), (2, .int (iZ (s : Int))), (3, .int (iZ (n : Int))), (4, .ref (vAd X 49)), (5, .ref (vAd X 50)), (6, .ref (vAd X 51)), (7, .int (iZ 1)), (8, .int (iZ z)), (9, .int (iZ (i : Int))), (10, .int (iZ a)), (11, .int (iZ (p : Int))), (12, .int (iZ x))] K dL_law_1007 (by decide) rfl ?_
  have L1009 : ∀ (fuel : Nat) (k : Nat) (l : Int) (z : Int) (P : Nat) (go : Int) (ξ : Mem) (ν : Mem) (hm : (2 * (8 - k) + (Int.toNat go)) < fuel) (hRI : RI μ ν ξ ru k l z s n) (hPl : P = (l + 1).toNat) (hk : (k : Int) ≤ mo) (hgo : go = 1 ∨ (go = 0 ∧ (k : Int) < mo ∧ ∀ j, j < pcn ξ → gn ξ 0 j ≤ 0)), vW X 28 1009 (kc + 2 * (20 - (2 * (8 - k) + (Int.toNat go)))) (ks + 10 * (20 - (2 * (8 - k) + (Int.toNat go)))) [(0, .ref (σ.1.1)), (1, .ref (vAd X 0)), (2, .int (iZ (s : Int))), (3, .int (iZ (n : Int))), (4, .ref (vAd X 49)), (5, .ref (vAd X 50)), (6, .ref (vAd X 51)), (7, .int (iZ 1)), (8, .int (iZ z)), (9, .int (iZ (i : Int))), (13, .int (iZ ru)), (14, .int (iZ mo)), (15, .int (iZ (k : Int))), (16, .int (iZ (P : Int))), (17, .int (iZ go))] [] ν := by
    intro fuel
    induction fuel with
    | zero => intro k l z P go ξ ν hm; exact absurd hm (Nat.not_lt_zero _)
    | succ fuel ih1009 =>
      intro k l z P go ξ ν hm hRI hPl hk hgo
      refine v_iload 14 K dL_law_1009 rfl ?_
      refine v_if_eq 1449 K dL_law_1011 (by decide) (by omega) (fun c1011 => ?_) (fun c1011 => ?_)
      · have hend : (k : Int) = mo ∨ ((k : Int) < mo ∧ ∀ j, j < pcn ξ → gn ξ 0 j ≤ 0) := by rcases hgo with e | ⟨e, e2, e3⟩; exact Or.inl (by omega); exact Or.inr ⟨e2, e3⟩
        have hE : E49 μ ν := fun c9 hc9 => hRI.2.1 c9 (by omega)
        have hWn : WF ν := hE.WF9 hW
        have hLn : PL ν 0 := hE.PL9 (by omega) hW hL
        have hzo : zOK μ := by unfold zOK; omega
        have hzn : zOK ν := by unfold zOK; rw [hE 0 (by omega)]; exact hzo
        refine v_iload 7 K dL_law_1449 rfl ?_
        refine v_aload_n 1 K dL_law_1451 rfl ?_
        refine v_iload 10 K dL_law_1452 rfl ?_
        refine v_iload 11 K dL_law_1454 rfl ?_
        refine v_callSWi (As := [.ref (vAd X 0), .int (iZ ru), .int (iZ mo)]) (rest := [.int (iZ 1)]) K 3 (c_L_run X.1.2.1 K.2.2.2.2.2.2 _ _ _ ν ru mo (by omega) (by omega) hWn hLn hzn) gL_law_L_run rfl rfl rfl (by decide +kernel) ⟨(Nat.le_of_ble_eq_true rfl), (Nat.le_of_ble_eq_true rfl)⟩ rfl rfl (Nat.le_of_ble_eq_true rfl) dL_law_1456 ⟨(by show (kc + 2 * (20 - (2 * (8 - k) + (Int.toNat go)))) + 0 ≤ 600258; omega), (by show (ks + 10 * (20 - (2 * (8 - k) + (Int.toNat go)))) + 0 ≤ 7292426; omega)⟩ (fun z14 ν1 q1456 => ?_)
        obtain ⟨hzk, hE1, hup⟩ := RUN_sim hE hW hL hzo (by omega) hRI.1 hend q1456
        refine v_iload 12 K dL_law_1459 rfl ?_
        refine v_icmp_ne 1494 K dL_law_1461 (by decide) (by omega) (by omega) (fun c1461 => (by exfalso; omega)) (fun c1461 => ?_)
        refine v_aload_n 1 K dL_law_1464 rfl ?_
        refine v_bipush K dL_law_1465 (by decide) ?_
        refine v_iconst K dL_law_1467 ?_
        refine v_callSWir (As := [.ref (vAd X 0), .int (iZ 120), .int (iZ 1)]) (rest := [.int (iZ 1)]) K 3 (c_L_runT X.1.2.1 K.2.2.2.2.2.2 _ _ _ ν1 120 1 (by omega) (by omega)) gL_law_L_run rfl rfl rfl (by decide +kernel) ⟨(Nat.le_of_ble_eq_true rfl), (Nat.le_of_ble_eq_true rfl)⟩ rfl rfl (Nat.le_of_ble_eq_true rfl) dL_law_1468 ⟨(by show (kc + 2 * (20 - (2 * (8 - k) + (Int.toNat go)))) + 1 ≤ 600258; omega), (by show (ks + 10 * (20 - (2 * (8 - k) + (Int.toNat go)))) + 6 ≤ 7292426; omega)⟩ ?_
        refine v_ldc (v := (-900001)) (n := (-900001)) K (List.mem_append_left _ (List.mem_append_left _ (List.mem_append_left _ (List.mem_append_left _ (List.mem_append_left _ (List.mem_append_left _ (List.mem_append_left _ (List.mem_append_left _ (List.mem_append_left _ (List.mem_append_left _ (List.mem_append_left _ (List.mem_append_left _ (List.mem_append_left _ (List.mem_append_left _ (List.mem_append_left _ (List.mem_append_left _ (List.mem_append_left _ (List.mem_of_getElem? (i := 4) rfl)))))))))))))))))) dL_law_1471 (by decide) ?_
        refine v_icmp_ne 1494 K dL_law_1473 (by decide) (by decide) (by decide) (fun c1473 => (by exfalso; omega)) (fun c1473 => ?_)
        refine v_aload_n 1 K dL_law_1476 rfl ?_
        refine v_bipush K dL_law_1477 (by decide) ?_
        refine v_sipush K dL_law_1479 (by decide) ?_
        refine v_callSWir (As := [.ref (vAd X 0), .int (iZ 114), .int (iZ 201)]) (rest := [.int (iZ 1)]) K 3 (c_L_runT2 X.1.2.1 K.2.2.2.2.2.2 _ _ _ ν1 201 (by omega)) gL_law_L_run rfl rfl rfl (by decide +kernel) ⟨(Nat.le_of_ble_eq_true rfl), (Nat.le_of_ble_eq_true rfl)⟩ rfl rfl (Nat.le_of_ble_eq_true rfl) dL_law_1482 ⟨(by show ((kc + 2 * (20 - (2 * (8 - k) + (Int.toNat go)))) + 1) + 1 ≤ 600258; omega), (by show ((ks + 10 * (20 - (2 * (8 - k) + (Int.toNat go)))) + 6) + 6 ≤ 7292426; omega)⟩ ?_
        refine v_ldc (v := (-900001)) (n := (-900001)) K (List.mem_append_left _ (List.mem_append_left _ (List.mem_append_left _ (List.mem_append_left _ (List.mem_append_left _ (List.mem_append_left _ (List.mem_append_left _ (List.mem_append_left _ (List.mem_append_left _ (List.mem_append_left _ (List.mem_append_left _ (List.mem_append_left _ (List.mem_append_left _ (List.mem_append_left _ (List.mem_append_left _ (List.mem_append_left _ (List.mem_append_left _ (List.mem_of_getElem? (i := 4) rfl)))))))))))))))))) dL_law_1485 (by decide) ?_
        refine v_icmp_ne 1494 K dL_law_1487 (by decide) (by decide) (by decide) (fun c1487 => (by exfalso; omega)) (fun c1487 => ?_)
        refine v_iconst K dL_law_1490 ?_
        refine v_goto 1495 K dL_law_1491 (by decide) ?_
        refine v_iand (z := 1) rfl K dL_law_1495 ?_
        refine v_istore [(7, .int (iZ 1)), (0, .ref (σ.1.1)), (1, .ref (vAd X 0)), (2, .int (iZ (s : Int))), (3, .int (iZ (n : Int))), (4, .ref (vAd X 49)), (5, .ref (vAd X 50)), (6, .ref (vAd X 51)), (8, .int (iZ z)), (9, .int (iZ (i : Int))), (13, .int (iZ ru)), (14, .int (iZ mo)), (15, .int (iZ (k : Int))), (16, .int (iZ (P : Int))), (17, .int (iZ go))] K dL_law_1496 (by decide) rfl ?_
        refine v_sub [1, 2, 3, 4, 5, 6, 7, 0, 8, 9] rfl ?_
        refine v_wid (c2 := (kc + 120)) (s2 := (ks + 900)) (by show (((kc + 2 * (20 - (2 * (8 - k) + (Int.toNat go)))) + 1) + 1) ≤ (kc + 120); omega) (by show (((ks + 10 * (20 - (2 * (8 - k) + (Int.toNat go)))) + 6) + 6) ≤ (ks + 900); omega) ?_
        exact L1498 z ν1 (by rw [mx_eq hE1 hup]; exact hRI.2.2.1)
      · refine v_iload 12 K dL_law_1014 rfl ?_
        refine v_iload 11 K dL_law_1016 rfl ?_
        refine v_icmp_ge 1449 K dL_law_1018 (by decide) (by omega) (by omega) (fun c1018 => ?_) (fun c1018 => ?_)
        · have hend : (k : Int) = mo ∨ ((k : Int) < mo ∧ ∀ j, j < pcn ξ → gn ξ 0 j ≤ 0) := by rcases hgo with e | ⟨e, e2, e3⟩; exact Or.inl (by omega); exact Or.inr ⟨e2, e3⟩
          have hE : E49 μ ν := fun c9 hc9 => hRI.2.1 c9 (by omega)
          have hWn : WF ν := hE.WF9 hW
          have hLn : PL ν 0 := hE.PL9 (by omega) hW hL
          have hzo : zOK μ := by unfold zOK; omega
          have hzn : zOK ν := by unfold zOK; rw [hE 0 (by omega)]; exact hzo
          refine v_iload 7 K dL_law_1449 rfl ?_
          refine v_aload_n 1 K dL_law_1451 rfl ?_
          refine v_iload 10 K dL_law_1452 rfl ?_
          refine v_iload 11 K dL_law_1454 rfl ?_
          refine v_callSWi (As := [.ref (vAd X 0), .int (iZ ru), .int (iZ mo)]) (rest := [.int (iZ 1)]) K 3 (c_L_run X.1.2.1 K.2.2.2.2.2.2 _ _ _ ν ru mo (by omega) (by omega) hWn hLn hzn) gL_law_L_run rfl rfl rfl (by decide +kernel) ⟨(Nat.le_of_ble_eq_true rfl), (Nat.le_of_ble_eq_true rfl)⟩ rfl rfl (Nat.le_of_ble_eq_true rfl) dL_law_1456 ⟨(by show (kc + 2 * (20 - (2 * (8 - k) + (Int.toNat go)))) + 0 ≤ 600258; omega), (by show (ks + 10 * (20 - (2 * (8 - k) + (Int.toNat go)))) + 0 ≤ 7292426; omega)⟩ (fun z14 ν1 q1456 => ?_)
          obtain ⟨hzk, hE1, hup⟩ := RUN_sim hE hW hL hzo (by omega) hRI.1 hend q1456
          refine v_iload 12 K dL_law_1459 rfl ?_
          refine v_icmp_ne 1494 K dL_law_1461 (by decide) (by omega) (by omega) (fun c1461 => (by exfalso; omega)) (fun c1461 => ?_)
          refine v_aload_n 1 K dL_law_1464 rfl ?_
          refine v_bipush K dL_law_1465 (by decide) ?_
          refine v_iconst K dL_law_1467 ?_
          refine v_callSWir (As := [.ref (vAd X 0), .int (iZ 120), .int (iZ 1)]) (rest := [.int (iZ 1)]) K 3 (c_L_runT X.1.2.1 K.2.2.2.2.2.2 _ _ _ ν1 120 1 (by omega) (by omega)) gL_law_L_run rfl rfl rfl (by decide +kernel) ⟨(Nat.le_of_ble_eq_true rfl), (Nat.le_of_ble_eq_true rfl)⟩ rfl rfl (Nat.le_of_ble_eq_true rfl) dL_law_1468 ⟨(by show (kc + 2 * (20 - (2 * (8 - k) + (Int.toNat go)))) + 1 ≤ 600258; omega), (by show (ks + 10 * (20 - (2 * (8 - k) + (Int.toNat go)))) + 6 ≤ 7292426; omega)⟩ ?_
          refine v_ldc (v := (-900001)) (n := (-900001)) K (List.mem_append_left _ (List.mem_append_left _ (List.mem_append_left _ (List.mem_append_left _ (List.mem_append_left _ (List.mem_append_left _ (List.mem_append_left _ (List.mem_append_left _ (List.mem_append_left _ (List.mem_append_left _ (List.mem_append_left _ (List.mem_append_left _ (List.mem_append_left _ (List.mem_append_left _ (List.mem_append_left _ (List.mem_append_left _ (List.mem_append_left _ (List.mem_of_getElem? (i := 4) rfl)))))))))))))))))) dL_law_1471 (by decide) ?_
          refine v_icmp_ne 1494 K dL_law_1473 (by decide) (by decide) (by decide) (fun c1473 => (by exfalso; omega)) (fun c1473 => ?_)
          refine v_aload_n 1 K dL_law_1476 rfl ?_
          refine v_bipush K dL_law_1477 (by decide) ?_
          refine v_sipush K dL_law_1479 (by decide) ?_
          refine v_callSWir (As := [.ref (vAd X 0), .int (iZ 114), .int (iZ 201)]) (rest := [.int (iZ 1)]) K 3 (c_L_runT2 X.1.2.1 K.2.2.2.2.2.2 _ _ _ ν1 201 (by omega)) gL_law_L_run rfl rfl rfl (by decide +kernel) ⟨(Nat.le_of_ble_eq_true rfl), (Nat.le_of_ble_eq_true rfl)⟩ rfl rfl (Nat.le_of_ble_eq_true rfl) dL_law_1482 ⟨(by show ((kc + 2 * (20 - (2 * (8 - k) + (Int.toNat go)))) + 1) + 1 ≤ 600258; omega), (by show ((ks + 10 * (20 - (2 * (8 - k) + (Int.toNat go)))) + 6) + 6 ≤ 7292426; omega)⟩ ?_
          refine v_ldc (v := (-900001)) (n := (-900001)) K (List.mem_append_left _ (List.mem_append_left _ (List.mem_append_left _ (List.mem_append_left _ (List.mem_append_left _ (List.mem_append_left _ (List.mem_append_left _ (List.mem_append_left _ (List.mem_append_left _ (List.mem_append_left _ (List.mem_append_left _ (List.mem_append_left _ (List.mem_append_left _ (List.mem_append_left _ (List.mem_append_left _ (List.mem_append_left _ (List.mem_append_left _ (List.mem_of_getElem? (i := 4) rfl)))))))))))))))))) dL_law_1485 (by decide) ?_
          refine v_icmp_ne 1494 K dL_law_1487 (by decide) (by decide) (by decide) (fun c1487 => (by exfalso; omega)) (fun c1487 => ?_)
          refine v_iconst K dL_law_1490 ?_
          refine v_goto 1495 K dL_law_1491 (by decide) ?_
          refine v_iand (z := 1) rfl K dL_law_1495 ?_
          refine v_istore [(7, .int (iZ 1)), (0, .ref (σ.1.1)), (1, .ref (vAd X 0)), (2, .int (iZ (s : Int))), (3, .int (iZ (n : Int))), (4, .ref (vAd X 49)), (5, .ref (vAd X 50)), (6, .ref (vAd X 51)), (8, .int (iZ z)), (9, .int (iZ (i : Int))), (13, .int (iZ ru)), (14, .int (iZ mo)), (15, .int (iZ (k : Int))), (16, .int (iZ (P : Int))), (17, .int (iZ go))] K dL_law_1496 (by decide) rfl ?_
          refine v_sub [1, 2, 3, 4, 5, 6, 7, 0, 8, 9] rfl ?_
          refine v_wid (c2 := (kc + 120)) (s2 := (ks + 900)) (by show (((kc + 2 * (20 - (2 * (8 - k) + (Int.toNat go)))) + 1) + 1) ≤ (kc + 120); omega) (by show (((ks + 10 * (20 - (2 * (8 - k) + (Int.toNat go)))) + 6) + 6) ≤ (ks + 900); omega) ?_
          exact L1498 z ν1 (by rw [mx_eq hE1 hup]; exact hRI.2.2.1)
        · obtain ⟨hWx, hpcx, hPO, hRO, hf1_, hf2_, hf3_, hf4_⟩ := RI_fact hRI
          have hPn : P ≤ n := by have := hRI.2.2.2; omega
          have hz06 : ξ 0 6 = z := by have := hRI.2.2.1.2.2.2.2.1; rw [mx_lo (by omega)] at this; exact this
          have hzr : 1 ≤ z ∧ z ≤ 2147483646 := hRI.2.2.1.2.2.2.2.2
          have hcgn := cgF_rng ξ 0 n
          refine v_iload_n 3 K dL_law_1021 rfl ?_
          refine v_xnew K (List.mem_append_left _ (List.mem_append_left _ (List.mem_append_left _ (List.mem_append_left _ (List.mem_append_left _ (List.mem_append_left _ (List.mem_append_left _ (List.mem_append_left _ (List.mem_append_left _ (List.mem_append_left _ (List.mem_append_left _ (List.mem_append_left _ (List.mem_append_left _ (List.mem_append_left _ (List.mem_append_left _ (List.mem_append_left _ (List.mem_append_left _ (List.mem_of_getElem? (i := 3) rfl)))))))))))))))))) (by omega) dL_law_1022 ⟨(by show (kc + 2 * (20 - (2 * (8 - k) + (Int.toNat go)))) + 1 ≤ 600258; omega), (by show (ks + 10 * (20 - (2 * (8 - k) + (Int.toNat go)))) + n ≤ 7292426; omega)⟩ (fun ga => ?_)
          refine v_astore [(18, .ref ga), (0, .ref (σ.1.1)), (1, .ref (vAd X 0)), (2, .int (iZ (s : Int))), (3, .int (iZ (n : Int))), (4, .ref (vAd X 49)), (5, .ref (vAd X 50)), (6, .ref (vAd X 51)), (7, .int (iZ 1)), (8, .int (iZ z)), (9, .int (iZ (i : Int))), (13, .int (iZ ru)), (14, .int (iZ mo)), (15, .int (iZ (k : Int))), (16, .int (iZ (P : Int))), (17, .int (iZ go))] K dL_law_1024 (by decide) rfl ?_
          refine v_iload_n 4 K dL_law_1026 rfl ?_
          refine v_xnew K (List.mem_append_left _ (List.mem_append_left _ (List.mem_append_left _ (List.mem_append_left _ (List.mem_append_left _ (List.mem_append_left _ (List.mem_append_left _ (List.mem_append_left _ (List.mem_append_left _ (List.mem_append_left _ (List.mem_append_left _ (List.mem_append_left _ (List.mem_append_left _ (List.mem_append_left _ (List.mem_append_left _ (List.mem_append_left _ (List.mem_append_left _ (List.mem_of_getElem? (i := 3) rfl)))))))))))))))))) (by omega) dL_law_1027 ⟨(by show ((kc + 2 * (20 - (2 * (8 - k) + (Int.toNat go)))) + 1) + 1 ≤ 600258; omega), (by show ((ks + 10 * (20 - (2 * (8 - k) + (Int.toNat go)))) + n) + n ≤ 7292426; omega)⟩ (fun gb => ?_)
          refine v_astore [(19, .ref gb), (18, .ref ga), (0, .ref (σ.1.1)), (1, .ref (vAd X 0)), (2, .int (iZ (s : Int))), (3, .int (iZ (n : Int))), (4, .ref (vAd X 49)), (5, .ref (vAd X 50)), (6, .ref (vAd X 51)), (7, .int (iZ 1)), (8, .int (iZ z)), (9, .int (iZ (i : Int))), (13, .int (iZ ru)), (14, .int (iZ mo)), (15, .int (iZ (k : Int))), (16, .int (iZ (P : Int))), (17, .int (iZ go))] K dL_law_1029 (by decide) rfl ?_
          refine v_iconst K dL_law_1031 ?_
          refine v_istore [(20, .int (iZ 0)), (19, .ref gb), (18, .ref ga), (0, .ref (σ.1.1)), (1, .ref (vAd X 0)), (2, .int (iZ (s : Int))), (3, .int (iZ (n : Int))), (4, .ref (vAd X 49)), (5, .ref (vAd X 50)), (6, .ref (vAd X 51)), (7, .int (iZ 1)), (8, .int (iZ z)), (9, .int (iZ (i : Int))), (13, .int (iZ ru)), (14, .int (iZ mo)), (15, .int (iZ (k : Int))), (16, .int (iZ (P : Int))), (17, .int (iZ go))] K dL_law_1032 (by decide) rfl ?_
          refine v_iconst K dL_law_1034 ?_
          refine v_istore [(21, .int (iZ (-1))), (20, .int (iZ 0)), (19, .ref gb), (18, .ref ga), (0, .ref (σ.1.1)), (1, .ref (vAd X 0)), (2, .int (iZ (s : Int))), (3, .int (iZ (n : Int))), (4, .ref (vAd X 49)), (5, .ref (vAd X 50)), (6, .ref (vAd X 51)), (7, .int (iZ 1)), (8, .int (iZ z)), (9, .int (iZ (i : Int))), (13, .int (iZ ru)), (14, .int (iZ mo)), (15, .int (iZ (k : Int))), (16, .int (iZ (P : Int))), (17, .int (iZ go))] K dL_law_1035 (by decide) rfl ?_
          refine v_iconst K dL_law_1037 ?_
          refine v_istore [(22, .int (iZ (-1))), (21, .int (iZ (-1))), (20, .int (iZ 0)), (19, .ref gb), (18, .ref ga), (0, .ref (σ.1.1)), (1, .ref (vAd X 0)), (2, .int (iZ (s : Int))), (3, .int (iZ (n : Int))), (4, .ref (vAd X 49)), (5, .ref (vAd X 50)), (6, .ref (vAd X 51)), (7, .int (iZ 1)), (8, .int (iZ z)), (9, .int (iZ (i : Int))), (13, .int (iZ ru)), (14, .int (iZ mo)), (15, .int (iZ (k : Int))), (16, .int (iZ (P : Int))), (17, .int (iZ go))] K dL_law_1038 (by decide) rfl ?_
          refine v_iconst K dL_law_1040 ?_
          refine v_istore [(23, .int (iZ 0)), (22, .int (iZ (-1))), (21, .int (iZ (-1))), (20, .int (iZ 0)), (19, .ref gb), (18, .ref ga), (0, .ref (σ.1.1)), (1, .ref (vAd X 0)), (2, .int (iZ (s : Int))), (3, .int (iZ (n : Int))), (4, .ref (vAd X 49)), (5, .ref (vAd X 50)), (6, .ref (vAd X 51)), (7, .int (iZ 1)), (8, .int (iZ z)), (9, .int (iZ (i : Int))), (13, .int (iZ ru)), (14, .int (iZ mo)), (15, .int (iZ (k : Int))), (16, .int (iZ (P : Int))), (17, .int (iZ go))] K dL_law_1041 (by decide) rfl ?_
          have L1043 : ∀ (fuel : Nat) (j : Nat) (gs : Int) (nx : Int) (fg : Nat → Int) (fb : Nat → Int) (hm : 7 - j < fuel) (hj : j ≤ n) (hGK : GK ξ n P j fg fb gs nx) (hgsb : 0 ≤ gs ∧ gs ≤ (j : Int)) (hnxb : -1 ≤ nx ∧ nx < (n : Int)), vY X 28 1043 (((kc + 2 * (20 - (2 * (8 - k) + (Int.toNat go)))) + 1) + 1) (((ks + 10 * (20 - (2 * (8 - k) + (Int.toNat go)))) + n) + n) [(0, .ref (σ.1.1)), (1, .ref (vAd X 0)), (2, .int (iZ (s : Int))), (3, .int (iZ (n : Int))), (4, .ref (vAd X 49)), (5, .ref (vAd X 50)), (6, .ref (vAd X 51)), (7, .int (iZ 1)), (8, .int (iZ z)), (9, .int (iZ (i : Int))), (13, .int (iZ ru)), (14, .int (iZ mo)), (15, .int (iZ (k : Int))), (16, .int (iZ (P : Int))), (17, .int (iZ go)), (18, .ref ga), (19, .ref gb), (20, .int (iZ gs)), (21, .int (iZ (-1))), (22, .int (iZ nx)), (23, .int (iZ (j : Int)))] [] ν [xi X ga n fg, xi X gb n fb] := by
            intro fuel
            induction fuel with
            | zero => intro j gs nx fg fb hm; exact absurd hm (Nat.not_lt_zero _)
            | succ fuel ih1043 =>
              intro j gs nx fg fb hm hj hGK hgsb hnxb
              refine v_iload 20 K dL_law_1043 rfl ?_
              refine v_iload_n 3 K dL_law_1045 rfl ?_
              refine v_icmp_ge 1257 K dL_law_1046 (by decide) (by omega) (by omega) (fun c1046 => ?_) (fun c1046 => ?_)
              · have hjn : j = n := by omega
                rw [hjn] at hGK
                obtain ⟨hge1, hge2, hge3⟩ := GK_end (by omega) hPn hpcx hGK
                refine v_iconst K dL_law_1257 ?_
                refine v_istore [(23, .int (iZ 0)), (0, .ref (σ.1.1)), (1, .ref (vAd X 0)), (2, .int (iZ (s : Int))), (3, .int (iZ (n : Int))), (4, .ref (vAd X 49)), (5, .ref (vAd X 50)), (6, .ref (vAd X 51)), (7, .int (iZ 1)), (8, .int (iZ z)), (9, .int (iZ (i : Int))), (13, .int (iZ ru)), (14, .int (iZ mo)), (15, .int (iZ (k : Int))), (16, .int (iZ (P : Int))), (17, .int (iZ go)), (18, .ref ga), (19, .ref gb), (20, .int (iZ gs)), (21, .int (iZ (-1))), (22, .int (iZ nx))] K dL_law_1258 (by decide) rfl ?_
                have L1260 : ∀ (fuel : Nat) (t : Nat) (hm : 7 - t < fuel) (ht : t ≤ n), vY X 28 1260 (((kc + 2 * (20 - (2 * (8 - k) + (Int.toNat go)))) + 1) + 1) (((ks + 10 * (20 - (2 * (8 - k) + (Int.toNat go)))) + n) + n) [(0, .ref (σ.1.1)), (1, .ref (vAd X 0)), (2, .int (iZ (s : Int))), (3, .int (iZ (n : Int))), (4, .ref (vAd X 49)), (5, .ref (vAd X 50)), (6, .ref (vAd X 51)), (7, .int (iZ 1)), (8, .int (iZ z)), (9, .int (iZ (i : Int))), (13, .int (iZ ru)), (14, .int (iZ mo)), (15, .int (iZ (k : Int))), (16, .int (iZ (P : Int))), (17, .int (iZ go)), (18, .ref ga), (19, .ref gb), (20, .int (iZ gs)), (21, .int (iZ ((mgF ξ 0 t).1))), (22, .int (iZ nx)), (23, .int (iZ (t : Int)))] [] ν [xi X ga n fg, xi X gb n fb] := by
                  intro fuel
                  induction fuel with
                  | zero => intro t hm; exact absurd hm (Nat.not_lt_zero _)
                  | succ fuel ih1260 =>
                    intro t hm ht
                    refine v_iload 20 K dL_law_1260 rfl ?_
                    refine v_iload_n 3 K dL_law_1262 rfl ?_
                    refine v_icmp_ge 1307 K dL_law_1263 (by decide) (by omega) (by omega) (fun c1263 => ?_) (fun c1263 => ?_)
                    · have htn : t = n := by omega
                      have hmgn := mgF_rng hWx (y := 0) n (by omega)
                      have hmgt : (mgF ξ 0 t).1 = (mgF ξ 0 n).1 := by rw [htn]
                      have hgs : gs = cgF ξ 0 n := hge2
                      refine v_iload 17 K dL_law_1307 rfl ?_
                      refine v_if_le 1316 K dL_law_1309 (by decide) (by omega) (fun c1309 => ?_) (fun c1309 => ?_)
                      · refine v_iconst K dL_law_1316 ?_
                        refine v_istore [(17, .int (iZ 0)), (0, .ref (σ.1.1)), (1, .ref (vAd X 0)), (2, .int (iZ (s : Int))), (3, .int (iZ (n : Int))), (4, .ref (vAd X 49)), (5, .ref (vAd X 50)), (6, .ref (vAd X 51)), (7, .int (iZ 1)), (8, .int (iZ z)), (9, .int (iZ (i : Int))), (13, .int (iZ ru)), (14, .int (iZ mo)), (15, .int (iZ (k : Int))), (16, .int (iZ (P : Int))), (18, .ref ga), (19, .ref gb), (20, .int (iZ gs)), (21, .int (iZ ((mgF ξ 0 t).1))), (22, .int (iZ nx)), (23, .int (iZ (t : Int)))] K dL_law_1317 (by decide) rfl ?_
                        refine v_iload 0 K dL_law_1319 rfl ?_
                        refine v_if_eq 1446 K dL_law_1321 (by decide) (by decide) (fun c1321 => ?_) (fun c1321 => (by exfalso; omega))
                        refine v_goto 1009 K dL_law_1446 (by decide) ?_
                        have hgo9 : (0 : Int) = 1 ∨ ((0 : Int) = 0 ∧ (k : Int) < mo ∧ ∀ j, j < pcn ξ → gn ξ 0 j ≤ 0) := Or.inr ⟨rfl, by omega, fun j hj => cg_none (ξ := ξ) (n := n) (by omega) j (by omega)⟩
                        refine v_sub [1, 2, 3, 4, 5, 6, 7, 8, 9, 10, 11, 12, 13, 14, 0] rfl ?_
                        refine v_xdrop ?_
                        refine v_wid (c2 := (kc + 2 * (20 - (2 * (8 - k) + (Int.toNat 0))))) (s2 := (ks + 10 * (20 - (2 * (8 - k) + (Int.toNat 0))))) (by show (((kc + 2 * (20 - (2 * (8 - k) + (Int.toNat go)))) + 1) + 1) ≤ (kc + 2 * (20 - (2 * (8 - k) + (Int.toNat 0)))); omega) (by show (((ks + 10 * (20 - (2 * (8 - k) + (Int.toNat go)))) + n) + n) ≤ (ks + 10 * (20 - (2 * (8 - k) + (Int.toNat 0)))); omega) ?_
                        exact ih1009 k l z P 0 ξ ν (by omega) (by first | exact hRI2 | exact hRI) (by omega) (by omega) (by first | exact hgo9 | exact Or.inl rfl)
                      · refine v_iconst K dL_law_1312 ?_
                        refine v_goto 1317 K dL_law_1313 (by decide) ?_
                        refine v_istore [(17, .int (iZ 1)), (0, .ref (σ.1.1)), (1, .ref (vAd X 0)), (2, .int (iZ (s : Int))), (3, .int (iZ (n : Int))), (4, .ref (vAd X 49)), (5, .ref (vAd X 50)), (6, .ref (vAd X 51)), (7, .int (iZ 1)), (8, .int (iZ z)), (9, .int (iZ (i : Int))), (13, .int (iZ ru)), (14, .int (iZ mo)), (15, .int (iZ (k : Int))), (16, .int (iZ (P : Int))), (18, .ref ga), (19, .ref gb), (20, .int (iZ gs)), (21, .int (iZ ((mgF ξ 0 t).1))), (22, .int (iZ nx)), (23, .int (iZ (t : Int)))] K dL_law_1317 (by decide) rfl ?_
                        refine v_iload 0 K dL_law_1319 rfl ?_
                        refine v_if_eq 1446 K dL_law_1321 (by decide) (by decide) (fun c1321 => (by exfalso; omega)) (fun c1321 => ?_)
                        have L1423 : ∀ (c : Nat) (ξ1 : Mem) (zz : Int) (hcn : c < n) (hNX : NX ξ ξ1 ru l (c : Int)) (hzz : (ξ1 = ξ ∧ zz = z) ∨ (ξ1 = upM ξ 0 6 zz ∧ 1 ≤ zz ∧ zz ≤ 2147483646)), vY X 28 1423 (((kc + 2 * (20 - (2 * (8 - k) + (Int.toNat go)))) + 1) + 1) (((ks + 10 * (20 - (2 * (8 - k) + (Int.toNat go)))) + n) + n) [(0, .ref (σ.1.1)), (1, .ref (vAd X 0)), (2, .int (iZ (s : Int))), (3, .int (iZ (n : Int))), (4, .ref (vAd X 49)), (5, .ref (vAd X 50)), (6, .ref (vAd X 51)), (7, .int (iZ 1)), (8, .int (iZ zz)), (9, .int (iZ (i : Int))), (13, .int (iZ ru)), (14, .int (iZ mo)), (15, .int (iZ (k : Int))), (16, .int (iZ (P : Int))), (17, .int (iZ 1)), (18, .ref ga), (19, .ref gb), (20, .int (iZ gs)), (21, .int (iZ ((mgF ξ 0 t).1))), (22, .int (iZ nx)), (23, .int (iZ (c : Int)))] [] ν [xi X ga n fg, xi X gb n fb] := by
                          intro c ξ1 zz hcn hNX hzz
                          refine v_aload 5 K dL_law_1423 rfl ?_
                          refine v_iconst K dL_law_1425 ?_
                          refine v_iload 20 K dL_law_1426 rfl ?_
                          refine v_imul K dL_law_1428 ?_
                          refine v_iconst K dL_law_1429 ?_
                          refine v_iadd K dL_law_1430 ?_
                          refine v_aload 16 K dL_law_1431 rfl ?_
                          refine v_iload 20 K dL_law_1433 rfl ?_
                          refine v_xald 1 c K rfl rfl (by omega) (by omega) dL_law_1435 ?_
                          refine v_top (b := (bits ξ c (bst ξ 0 c))) (by rw [(hge1 c hcn).2]) ?_
                          refine v_iast (c := 50) ((4 * c) + 2) K isI_50 (by omega) (by omega) dL_law_1436 ?_
                          refine v_iload 20 K dL_law_1437 rfl ?_
                          refine v_iconst K dL_law_1439 ?_
                          refine v_iadd K dL_law_1440 ?_
                          refine v_istore [(16, .int (iZ ((c : Int) + 1))), (0, .ref (σ.1.1)), (1, .ref (vAd X 0)), (2, .int (iZ (s : Int))), (3, .int (iZ (n : Int))), (4, .ref (vAd X 49)), (5, .ref (vAd X 50)), (6, .ref (vAd X 51)), (7, .int (iZ 1)), (8, .int (iZ zz)), (9, .int (iZ (i : Int))), (13, .int (iZ ru)), (14, .int (iZ mo)), (15, .int (iZ (k : Int))), (17, .int (iZ 1)), (18, .ref ga), (19, .ref gb), (20, .int (iZ gs)), (21, .int (iZ ((mgF ξ 0 t).1))), (22, .int (iZ nx)), (23, .int (iZ (c : Int)))] K dL_law_1441 (by decide) rfl ?_
                          refine v_iinc 13 [(15, .int (iZ ((k : Int) + 1))), (16, .int (iZ ((c : Int) + 1))), (0, .ref (σ.1.1)), (1, .ref (vAd X 0)), (2, .int (iZ (s : Int))), (3, .int (iZ (n : Int))), (4, .ref (vAd X 49)), (5, .ref (vAd X 50)), (6, .ref (vAd X 51)), (7, .int (iZ 1)), (8, .int (iZ zz)), (9, .int (iZ (i : Int))), (13, .int (iZ ru)), (14, .int (iZ mo)), (17, .int (iZ 1)), (18, .ref ga), (19, .ref gb), (20, .int (iZ gs)), (21, .int (iZ ((mgF ξ 0 t).1))), (22, .int (iZ nx)), (23, .int (iZ (c : Int)))] K dL_law_1443 rfl (by decide) rfl ?_
                          refine v_goto 1009 K dL_law_1446 (by decide) ?_
                          obtain ⟨ξ2, hRI2⟩ := RI_s hRI hNX hcn hzz rfl
                          refine v_sub [2, 3, 4, 5, 6, 7, 8, 9, 10, 11, 12, 13, 0, 1, 14] rfl ?_
                          refine v_eq (lv1 := [(0, .ref (σ.1.1)), (1, .ref (vAd X 0)), (2, .int (iZ (s : Int))), (3, .int (iZ (n : Int))), (4, .ref (vAd X 49)), (5, .ref (vAd X 50)), (6, .ref (vAd X 51)), (7, .int (iZ 1)), (8, .int (iZ zz)), (9, .int (iZ (i : Int))), (13, .int (iZ ru)), (14, .int (iZ mo)), (15, .int (iZ (((k + 1) : Nat) : Int))), (16, .int (iZ (((c + 1) : Nat) : Int))), (17, .int (iZ 1))]) (st1 := []) (v_c0 (v_c0 (v_c0 (v_c0 (v_c0 (v_c0 (v_c0 (v_c0 (v_c0 (v_c0 (v_c0 (v_c0 (v_cI (by first | rfl | omega) (v_cI (by first | rfl | omega) (v_c0 rfl))))))))))))))) rfl ?_
                          refine v_xdrop ?_
                          refine v_wid (c2 := (kc + 2 * (20 - (2 * (8 - (k + 1)) + (Int.toNat 1))))) (s2 := (ks + 10 * (20 - (2 * (8 - (k + 1)) + (Int.toNat 1))))) (by show (((kc + 2 * (20 - (2 * (8 - k) + (Int.toNat go)))) + 1) + 1) ≤ (kc + 2 * (20 - (2 * (8 - (k + 1)) + (Int.toNat 1)))); omega) (by show (((ks + 10 * (20 - (2 * (8 - k) + (Int.toNat go)))) + n) + n) ≤ (ks + 10 * (20 - (2 * (8 - (k + 1)) + (Int.toNat 1)))); omega) ?_
                          exact ih1009 (k + 1) (c : Int) zz (c + 1) 1 ξ2 (upM ν 50 ((4 * c) + 2) (bits ξ c (bst ξ 0 c))) (by omega) (by first | exact hRI2 | exact hRI) (by omega) (by omega) (by first | exact hgo9 | exact Or.inl rfl)
                        refine v_iload 11 K dL_law_1324 rfl ?_
                        refine v_bipush K dL_law_1326 (by decide) ?_
                        refine v_icmp_ne 1336 K dL_law_1328 (by decide) (by omega) (by decide) (fun c1328 => ?_) (fun c1328 => ?_)
                        · refine v_iload 18 K dL_law_1336 rfl ?_
                          refine v_istore [(23, .int (iZ ((mgF ξ 0 t).1))), (17, .int (iZ 1)), (0, .ref (σ.1.1)), (1, .ref (vAd X 0)), (2, .int (iZ (s : Int))), (3, .int (iZ (n : Int))), (4, .ref (vAd X 49)), (5, .ref (vAd X 50)), (6, .ref (vAd X 51)), (7, .int (iZ 1)), (8, .int (iZ z)), (9, .int (iZ (i : Int))), (13, .int (iZ ru)), (14, .int (iZ mo)), (15, .int (iZ (k : Int))), (16, .int (iZ (P : Int))), (18, .ref ga), (19, .ref gb), (20, .int (iZ gs)), (21, .int (iZ ((mgF ξ 0 t).1))), (22, .int (iZ nx))] K dL_law_1338 (by decide) rfl ?_
                          refine v_iload 12 K dL_law_1340 rfl ?_
                          refine v_bipush K dL_law_1342 (by decide) ?_
                          refine v_icmp_ne 1423 K dL_law_1344 (by decide) (by omega) (by decide) (fun c1344 => ?_) (fun c1344 => ?_)
                          · obtain ⟨c, hcn, hcc⟩ := MG_ge hWx (by omega) (show 0 < cgF ξ 0 n by omega)
                            have hNX : NX ξ ξ ru l (c : Int) := Or.inl ⟨by omega, rfl, by rw [hpcx]; exact hcc.symm⟩
                            have hzz : (ξ = ξ ∧ z = z) ∨ (ξ = upM ξ 0 6 z ∧ 1 ≤ z ∧ z ≤ 2147483646) := Or.inl ⟨rfl, rfl⟩
                            refine v_sub [2, 3, 4, 5, 6, 7, 8, 9, 10, 11, 12, 13, 14, 15, 1, 16, 17, 18, 19, 20, 0] rfl ?_
                            refine v_eq (lv1 := [(0, .ref (σ.1.1)), (1, .ref (vAd X 0)), (2, .int (iZ (s : Int))), (3, .int (iZ (n : Int))), (4, .ref (vAd X 49)), (5, .ref (vAd X 50)), (6, .ref (vAd X 51)), (7, .int (iZ 1)), (8, .int (iZ z)), (9, .int (iZ (i : Int))), (13, .int (iZ ru)), (14, .int (iZ mo)), (15, .int (iZ (k : Int))), (16, .int (iZ (P : Int))), (17, .int (iZ 1)), (18, .ref ga), (19, .ref gb), (20, .int (iZ gs)), (21, .int (iZ ((mgF ξ 0 t).1))), (22, .int (iZ nx)), (23, .int (iZ (c : Int)))]) (st1 := []) (v_c0 (v_c0 (v_c0 (v_c0 (v_c0 (v_c0 (v_c0 (v_c0 (v_c0 (v_c0 (v_c0 (v_c0 (v_c0 (v_c0 (v_c0 (v_c0 (v_c0 (v_c0 (v_c0 (v_c0 (v_cI (by first | (rw [hcc]; done) | (rw [hmgt, hcc]; done)) rfl))))))))))))))))))))) rfl ?_
                            exact L1423 c ξ z hcn hNX hzz
                          · refine v_iload 10 K dL_law_1347 rfl ?_
                            refine w_i2l (by omega) K dL_law_1349 ?_
                            refine w_ldc2 (v := 48271) (n := 48271) K (List.mem_append_left _ (List.mem_append_left _ (List.mem_append_left _ (List.mem_append_left _ (List.mem_append_left _ (List.mem_append_left _ (List.mem_append_left _ (List.mem_append_left _ (List.mem_append_left _ (List.mem_append_left _ (List.mem_append_left _ (List.mem_append_left _ (List.mem_append_left _ (List.mem_append_left _ (List.mem_append_left _ (List.mem_append_left _ (List.mem_append_left _ (List.mem_of_getElem? (i := 7) rfl)))))))))))))))))) dL_law_1350 (by decide) ?_
                            refine w_lmul K dL_law_1353 ?_
                            refine w_ldc2 (v := 2147483647) (n := 2147483647) K (List.mem_append_left _ (List.mem_append_left _ (List.mem_append_left _ (List.mem_append_left _ (List.mem_append_left _ (List.mem_append_left _ (List.mem_append_left _ (List.mem_append_left _ (List.mem_append_left _ (List.mem_append_left _ (List.mem_append_left _ (List.mem_append_left _ (List.mem_append_left _ (List.mem_append_left _ (List.mem_append_left _ (List.mem_append_left _ (List.mem_append_left _ (List.mem_of_getElem? (i := 8) rfl)))))))))))))))))) dL_law_1354 (by decide) ?_
                            refine w_lrem (by omega) (by omega) K dL_law_1357 ?_
                            refine w_l2i K dL_law_1358 ?_
                            obtain ⟨z2, ez2⟩ : ∃ z2 : Int, z2 = ((z * 48271) % 2147483647) := ⟨_, rfl⟩
                            refine v_top (b := z2) (congrArg iZ ez2.symm) ?_
                            have hz2r : 1 ≤ z2 ∧ z2 ≤ 2147483646 := by rw [ez2]; exact z_next hzr
                            refine v_istore [(8, .int (iZ z2)), (23, .int (iZ ((mgF ξ 0 t).1))), (17, .int (iZ 1)), (0, .ref (σ.1.1)), (1, .ref (vAd X 0)), (2, .int (iZ (s : Int))), (3, .int (iZ (n : Int))), (4, .ref (vAd X 49)), (5, .ref (vAd X 50)), (6, .ref (vAd X 51)), (7, .int (iZ 1)), (9, .int (iZ (i : Int))), (13, .int (iZ ru)), (14, .int (iZ mo)), (15, .int (iZ (k : Int))), (16, .int (iZ (P : Int))), (18, .ref ga), (19, .ref gb), (20, .int (iZ gs)), (21, .int (iZ ((mgF ξ 0 t).1))), (22, .int (iZ nx))] K dL_law_1359 (by decide) rfl ?_
                            refine v_iload 0 K dL_law_1361 rfl ?_
                            refine v_iload 18 K dL_law_1363 rfl ?_
                            refine v_irem (by omega) (by omega) K dL_law_1365 ?_
                            obtain ⟨n0, en0⟩ : ∃ n0 : Int, n0 = (z2 % gs) := ⟨_, rfl⟩
                            refine v_top (b := n0) (congrArg iZ en0.symm) ?_
                            have hn0r : 0 ≤ n0 ∧ n0 < gs := by rw [en0]; exact ⟨Int.emod_nonneg _ (by omega), Int.emod_lt_of_pos _ (by omega)⟩
                            refine v_istore [(24, .int (iZ n0)), (8, .int (iZ z2)), (23, .int (iZ ((mgF ξ 0 t).1))), (17, .int (iZ 1)), (0, .ref (σ.1.1)), (1, .ref (vAd X 0)), (2, .int (iZ (s : Int))), (3, .int (iZ (n : Int))), (4, .ref (vAd X 49)), (5, .ref (vAd X 50)), (6, .ref (vAd X 51)), (7, .int (iZ 1)), (9, .int (iZ (i : Int))), (13, .int (iZ ru)), (14, .int (iZ mo)), (15, .int (iZ (k : Int))), (16, .int (iZ (P : Int))), (18, .ref ga), (19, .ref gb), (20, .int (iZ gs)), (21, .int (iZ ((mgF ξ 0 t).1))), (22, .int (iZ nx))] K dL_law_1366 (by decide) rfl ?_
                            refine v_iconst K dL_law_1368 ?_
                            refine v_istore [(25, .int (iZ 0)), (24, .int (iZ n0)), (8, .int (iZ z2)), (23, .int (iZ ((mgF ξ 0 t).1))), (17, .int (iZ 1)), (0, .ref (σ.1.1)), (1, .ref (vAd X 0)), (2, .int (iZ (s : Int))), (3, .int (iZ (n : Int))), (4, .ref (vAd X 49)), (5, .ref (vAd X 50)), (6, .ref (vAd X 51)), (7, .int (iZ 1)), (9, .int (iZ (i : Int))), (13, .int (iZ ru)), (14, .int (iZ mo)), (15, .int (iZ (k : Int))), (16, .int (iZ (P : Int))), (18, .ref ga), (19, .ref gb), (20, .int (iZ gs)), (21, .int (iZ ((mgF ξ 0 t).1))), (22, .int (iZ nx))] K dL_law_1369 (by decide) rfl ?_
                            have L1371 : ∀ (fuel : Nat) (u : Nat) (ch : Int) (hm : 7 - u < fuel) (hu : u ≤ n) (hZ : ZK ξ (mgF ξ 0 t).1 n0 u ch) (hchb : -1 ≤ ch ∧ ch < (n : Int)), vY X 28 1371 (((kc + 2 * (20 - (2 * (8 - k) + (Int.toNat go)))) + 1) + 1) (((ks + 10 * (20 - (2 * (8 - k) + (Int.toNat go)))) + n) + n) [(0, .ref (σ.1.1)), (1, .ref (vAd X 0)), (2, .int (iZ (s : Int))), (3, .int (iZ (n : Int))), (4, .ref (vAd X 49)), (5, .ref (vAd X 50)), (6, .ref (vAd X 51)), (7, .int (iZ 1)), (8, .int (iZ z2)), (9, .int (iZ (i : Int))), (13, .int (iZ ru)), (14, .int (iZ mo)), (15, .int (iZ (k : Int))), (16, .int (iZ (P : Int))), (17, .int (iZ 1)), (18, .ref ga), (19, .ref gb), (20, .int (iZ gs)), (21, .int (iZ ((mgF ξ 0 t).1))), (22, .int (iZ nx)), (23, .int (iZ ch)), (24, .int (iZ (n0 - cgF ξ 0 u))), (25, .int (iZ (u : Int)))] [] ν [xi X ga n fg, xi X gb n fb] := by
                              intro fuel
                              induction fuel with
                              | zero => intro u ch hm; exact absurd hm (Nat.not_lt_zero _)
                              | succ fuel ih1371 =>
                                intro u ch hm hu hZ hchb
                                have hgu := gn_rng hWx (y := 0) (p := u) (by omega)
                                have hcu := cgF_rng ξ 0 u
                                refine v_iload 22 K dL_law_1371 rfl ?_
                                refine v_iload_n 3 K dL_law_1373 rfl ?_
                                refine v_icmp_ge 1423 K dL_law_1374 (by decide) (by omega) (by omega) (fun c1374 => ?_) (fun c1374 => ?_)
                                · have hun : u = n := by omega
                                  rw [hun] at hZ
                                  obtain ⟨hGA, c, hcn, hcc⟩ := ZK_end hpcx (by omega) hZ
                                  have hNX : NX ξ (upM ξ 0 6 z2) ru l (c : Int) := Or.inr (Or.inr ⟨by omega, Or.inr ⟨by rw [hpcx]; omega, by rw [hz06, ← ez2], by rw [hz06, ← ez2, hpcx, ← hgs, ← en0, ← hcc]; exact hGA⟩⟩)
                                  have hzz : (upM ξ 0 6 z2 = ξ ∧ z2 = z) ∨ (upM ξ 0 6 z2 = upM ξ 0 6 z2 ∧ 1 ≤ z2 ∧ z2 ≤ 2147483646) := Or.inr ⟨rfl, hz2r.1, hz2r.2⟩
                                  refine v_sub [0, 1, 2, 3, 4, 5, 6, 7, 8, 9, 10, 11, 12, 13, 14, 15, 16, 17, 18, 19, 20] rfl ?_
                                  refine v_eq (lv1 := [(0, .ref (σ.1.1)), (1, .ref (vAd X 0)), (2, .int (iZ (s : Int))), (3, .int (iZ (n : Int))), (4, .ref (vAd X 49)), (5, .ref (vAd X 50)), (6, .ref (vAd X 51)), (7, .int (iZ 1)), (8, .int (iZ z2)), (9, .int (iZ (i : Int))), (13, .int (iZ ru)), (14, .int (iZ mo)), (15, .int (iZ (k : Int))), (16, .int (iZ (P : Int))), (17, .int (iZ 1)), (18, .ref ga), (19, .ref gb), (20, .int (iZ gs)), (21, .int (iZ ((mgF ξ 0 t).1))), (22, .int (iZ nx)), (23, .int (iZ (c : Int)))]) (st1 := []) (v_c0 (v_c0 (v_c0 (v_c0 (v_c0 (v_c0 (v_c0 (v_c0 (v_c0 (v_c0 (v_c0 (v_c0 (v_c0 (v_c0 (v_c0 (v_c0 (v_c0 (v_c0 (v_c0 (v_c0 (v_cI (by first | (rw [hcc]; done) | (rw [hmgt, hcc]; done)) rfl))))))))))))))))))))) rfl ?_
                                  exact L1423 c (upM ξ 0 6 z2) z2 hcn hNX hzz
                                · have L1397 : ∀ (ch2 : Int) (hch2 : (ch2 = (u : Int) ∧ 0 < gn ξ 0 u ∧ cgF ξ 0 u = n0) ∨ (ch2 = ch ∧ ¬ (0 < gn ξ 0 u ∧ cgF ξ 0 u = n0))), vY X 28 1397 (((kc + 2 * (20 - (2 * (8 - k) + (Int.toNat go)))) + 1) + 1) (((ks + 10 * (20 - (2 * (8 - k) + (Int.toNat go)))) + n) + n) [(0, .ref (σ.1.1)), (1, .ref (vAd X 0)), (2, .int (iZ (s : Int))), (3, .int (iZ (n : Int))), (4, .ref (vAd X 49)), (5, .ref (vAd X 50)), (6, .ref (vAd X 51)), (7, .int (iZ 1)), (8, .int (iZ z2)), (9, .int (iZ (i : Int))), (13, .int (iZ ru)), (14, .int (iZ mo)), (15, .int (iZ (k : Int))), (16, .int (iZ (P : Int))), (17, .int (iZ 1)), (18, .ref ga), (19, .ref gb), (20, .int (iZ gs)), (21, .int (iZ ((mgF ξ 0 t).1))), (22, .int (iZ nx)), (23, .int (iZ ch)), (24, .int (iZ (n0 - cgF ξ 0 u))), (25, .int (iZ (u : Int)))] [.int (iZ ch2)] ν [xi X ga n fg, xi X gb n fb] := by
                                    intro ch2 hch2
                                    refine v_istore [(23, .int (iZ ch2)), (0, .ref (σ.1.1)), (1, .ref (vAd X 0)), (2, .int (iZ (s : Int))), (3, .int (iZ (n : Int))), (4, .ref (vAd X 49)), (5, .ref (vAd X 50)), (6, .ref (vAd X 51)), (7, .int (iZ 1)), (8, .int (iZ z2)), (9, .int (iZ (i : Int))), (13, .int (iZ ru)), (14, .int (iZ mo)), (15, .int (iZ (k : Int))), (16, .int (iZ (P : Int))), (17, .int (iZ 1)), (18, .ref ga), (19, .ref gb), (20, .int (iZ gs)), (21, .int (iZ ((mgF ξ 0 t).1))), (22, .int (iZ nx)), (24, .int (iZ (n0 - cgF ξ 0 u))), (25, .int (iZ (u : Int)))] K dL_law_1397 (by decide) rfl ?_
                                    refine v_iload 21 K dL_law_1399 rfl ?_
                                    refine v_aload 16 K dL_law_1401 rfl ?_
                                    refine v_iload 22 K dL_law_1403 rfl ?_
                                    refine v_xald 0 u K rfl rfl (by omega) (by omega) dL_law_1405 ?_
                                    refine v_top (b := (gn ξ 0 u)) (by rw [(hge1 u (by omega)).1]) ?_
                                    refine v_if_le 1413 K dL_law_1406 (by decide) (by omega) (fun c1406 => ?_) (fun c1406 => ?_)
                                    · refine v_iconst K dL_law_1413 ?_
                                      refine v_isub K dL_law_1414 ?_
                                      refine v_istore [(24, .int (iZ ((n0 - cgF ξ 0 u) - 0))), (23, .int (iZ ch2)), (0, .ref (σ.1.1)), (1, .ref (vAd X 0)), (2, .int (iZ (s : Int))), (3, .int (iZ (n : Int))), (4, .ref (vAd X 49)), (5, .ref (vAd X 50)), (6, .ref (vAd X 51)), (7, .int (iZ 1)), (8, .int (iZ z2)), (9, .int (iZ (i : Int))), (13, .int (iZ ru)), (14, .int (iZ mo)), (15, .int (iZ (k : Int))), (16, .int (iZ (P : Int))), (17, .int (iZ 1)), (18, .ref ga), (19, .ref gb), (20, .int (iZ gs)), (21, .int (iZ ((mgF ξ 0 t).1))), (22, .int (iZ nx)), (25, .int (iZ (u : Int)))] K dL_law_1415 (by decide) rfl ?_
                                      refine v_iinc 22 [(25, .int (iZ ((u : Int) + 1))), (24, .int (iZ ((n0 - cgF ξ 0 u) - 0))), (23, .int (iZ ch2)), (0, .ref (σ.1.1)), (1, .ref (vAd X 0)), (2, .int (iZ (s : Int))), (3, .int (iZ (n : Int))), (4, .ref (vAd X 49)), (5, .ref (vAd X 50)), (6, .ref (vAd X 51)), (7, .int (iZ 1)), (8, .int (iZ z2)), (9, .int (iZ (i : Int))), (13, .int (iZ ru)), (14, .int (iZ mo)), (15, .int (iZ (k : Int))), (16, .int (iZ (P : Int))), (17, .int (iZ 1)), (18, .ref ga), (19, .ref gb), (20, .int (iZ gs)), (21, .int (iZ ((mgF ξ 0 t).1))), (22, .int (iZ nx))] K dL_law_1417 rfl (by decide) rfl ?_
                                      refine v_goto 1371 K dL_law_1420 (by decide) ?_
                                      refine v_sub [3, 4, 5, 6, 7, 8, 9, 10, 11, 12, 13, 14, 15, 16, 17, 18, 19, 20, 21, 22, 2, 1, 0] rfl ?_
                                      refine v_eq (lv1 := [(0, .ref (σ.1.1)), (1, .ref (vAd X 0)), (2, .int (iZ (s : Int))), (3, .int (iZ (n : Int))), (4, .ref (vAd X 49)), (5, .ref (vAd X 50)), (6, .ref (vAd X 51)), (7, .int (iZ 1)), (8, .int (iZ z2)), (9, .int (iZ (i : Int))), (13, .int (iZ ru)), (14, .int (iZ mo)), (15, .int (iZ (k : Int))), (16, .int (iZ (P : Int))), (17, .int (iZ 1)), (18, .ref ga), (19, .ref gb), (20, .int (iZ gs)), (21, .int (iZ ((mgF ξ 0 t).1))), (22, .int (iZ nx)), (23, .int (iZ ch2)), (24, .int (iZ (n0 - cgF ξ 0 (u + 1)))), (25, .int (iZ (((u + 1) : Nat) : Int)))]) (st1 := []) (v_c0 (v_c0 (v_c0 (v_c0 (v_c0 (v_c0 (v_c0 (v_c0 (v_c0 (v_c0 (v_c0 (v_c0 (v_c0 (v_c0 (v_c0 (v_c0 (v_c0 (v_c0 (v_c0 (v_c0 (v_c0 (v_cI (by first | (rw [cgF_y (by omega)]; omega) | (rw [cgF_n (by omega)]; omega)) (v_cI (by first | rfl | omega) rfl))))))))))))))))))))))) rfl ?_
                                      exact ih1371 (u + 1) ch2 (by omega) (by omega) (ZK_s hZ hch2) (by omega)
                                    · refine v_iconst K dL_law_1409 ?_
                                      refine v_goto 1414 K dL_law_1410 (by decide) ?_
                                      refine v_isub K dL_law_1414 ?_
                                      refine v_istore [(24, .int (iZ ((n0 - cgF ξ 0 u) - 1))), (23, .int (iZ ch2)), (0, .ref (σ.1.1)), (1, .ref (vAd X 0)), (2, .int (iZ (s : Int))), (3, .int (iZ (n : Int))), (4, .ref (vAd X 49)), (5, .ref (vAd X 50)), (6, .ref (vAd X 51)), (7, .int (iZ 1)), (8, .int (iZ z2)), (9, .int (iZ (i : Int))), (13, .int (iZ ru)), (14, .int (iZ mo)), (15, .int (iZ (k : Int))), (16, .int (iZ (P : Int))), (17, .int (iZ 1)), (18, .ref ga), (19, .ref gb), (20, .int (iZ gs)), (21, .int (iZ ((mgF ξ 0 t).1))), (22, .int (iZ nx)), (25, .int (iZ (u : Int)))] K dL_law_1415 (by decide) rfl ?_
                                      refine v_iinc 22 [(25, .int (iZ ((u : Int) + 1))), (24, .int (iZ ((n0 - cgF ξ 0 u) - 1))), (23, .int (iZ ch2)), (0, .ref (σ.1.1)), (1, .ref (vAd X 0)), (2, .int (iZ (s : Int))), (3, .int (iZ (n : Int))), (4, .ref (vAd X 49)), (5, .ref (vAd X 50)), (6, .ref (vAd X 51)), (7, .int (iZ 1)), (8, .int (iZ z2)), (9, .int (iZ (i : Int))), (13, .int (iZ ru)), (14, .int (iZ mo)), (15, .int (iZ (k : Int))), (16, .int (iZ (P : Int))), (17, .int (iZ 1)), (18, .ref ga), (19, .ref gb), (20, .int (iZ gs)), (21, .int (iZ ((mgF ξ 0 t).1))), (22, .int (iZ nx))] K dL_law_1417 rfl (by decide) rfl ?_
                                      refine v_goto 1371 K dL_law_1420 (by decide) ?_
                                      refine v_sub [3, 4, 5, 6, 7, 8, 9, 10, 11, 12, 13, 14, 15, 16, 17, 18, 19, 20, 21, 22, 2, 1, 0] rfl ?_
                                      refine v_eq (lv1 := [(0, .ref (σ.1.1)), (1, .ref (vAd X 0)), (2, .int (iZ (s : Int))), (3, .int (iZ (n : Int))), (4, .ref (vAd X 49)), (5, .ref (vAd X 50)), (6, .ref (vAd X 51)), (7, .int (iZ 1)), (8, .int (iZ z2)), (9, .int (iZ (i : Int))), (13, .int (iZ ru)), (14, .int (iZ mo)), (15, .int (iZ (k : Int))), (16, .int (iZ (P : Int))), (17, .int (iZ 1)), (18, .ref ga), (19, .ref gb), (20, .int (iZ gs)), (21, .int (iZ ((mgF ξ 0 t).1))), (22, .int (iZ nx)), (23, .int (iZ ch2)), (24, .int (iZ (n0 - cgF ξ 0 (u + 1)))), (25, .int (iZ (((u + 1) : Nat) : Int)))]) (st1 := []) (v_c0 (v_c0 (v_c0 (v_c0 (v_c0 (v_c0 (v_c0 (v_c0 (v_c0 (v_c0 (v_c0 (v_c0 (v_c0 (v_c0 (v_c0 (v_c0 (v_c0 (v_c0 (v_c0 (v_c0 (v_c0 (v_cI (by first | (rw [cgF_y (by omega)]; omega) | (rw [cgF_n (by omega)]; omega)) (v_cI (by first | rfl | omega) rfl))))))))))))))))))))))) rfl ?_
                                      exact ih1371 (u + 1) ch2 (by omega) (by omega) (ZK_s hZ hch2) (by omega)
                                  refine v_aload 15 K dL_law_1377 rfl ?_
                                  refine v_iload 22 K dL_law_1379 rfl ?_
                                  refine v_xald 0 u K rfl rfl (by omega) (by omega) dL_law_1381 ?_
                                  refine v_top (b := (gn ξ 0 u)) (by rw [(hge1 u (by omega)).1]) ?_
                                  refine v_if_le 1395 K dL_law_1382 (by decide) (by omega) (fun c1382 => ?_) (fun c1382 => ?_)
                                  · refine v_iload 20 K dL_law_1395 rfl ?_
                                    exact L1397 ch (by first | exact Or.inl ⟨rfl, by omega, by omega⟩ | exact Or.inr ⟨rfl, by omega⟩)
                                  · refine v_iload 21 K dL_law_1385 rfl ?_
                                    refine v_if_ne 1395 K dL_law_1387 (by decide) (by omega) (fun c1387 => ?_) (fun c1387 => ?_)
                                    · refine v_iload 20 K dL_law_1395 rfl ?_
                                      exact L1397 ch (by first | exact Or.inl ⟨rfl, by omega, by omega⟩ | exact Or.inr ⟨rfl, by omega⟩)
                                    · refine v_iload 22 K dL_law_1390 rfl ?_
                                      refine v_goto 1397 K dL_law_1392 (by decide) ?_
                                      exact L1397 (u : Int) (by first | exact Or.inl ⟨rfl, by omega, by omega⟩ | exact Or.inr ⟨rfl, by omega⟩)
                            refine v_sub [5, 6, 7, 8, 9, 10, 11, 12, 2, 13, 14, 15, 16, 17, 4, 18, 19, 20, 21, 22, 3, 1, 0] rfl ?_
                            refine v_eq (lv1 := [(0, .ref (σ.1.1)), (1, .ref (vAd X 0)), (2, .int (iZ (s : Int))), (3, .int (iZ (n : Int))), (4, .ref (vAd X 49)), (5, .ref (vAd X 50)), (6, .ref (vAd X 51)), (7, .int (iZ 1)), (8, .int (iZ z2)), (9, .int (iZ (i : Int))), (13, .int (iZ ru)), (14, .int (iZ mo)), (15, .int (iZ (k : Int))), (16, .int (iZ (P : Int))), (17, .int (iZ 1)), (18, .ref ga), (19, .ref gb), (20, .int (iZ gs)), (21, .int (iZ ((mgF ξ 0 t).1))), (22, .int (iZ nx)), (23, .int (iZ ((mgF ξ 0 t).1))), (24, .int (iZ (n0 - cgF ξ 0 0))), (25, .int (iZ ((0 : Nat) : Int)))]) (st1 := []) (v_c0 (v_c0 (v_c0 (v_c0 (v_c0 (v_c0 (v_c0 (v_c0 (v_c0 (v_c0 (v_c0 (v_c0 (v_c0 (v_c0 (v_c0 (v_c0 (v_c0 (v_c0 (v_c0 (v_c0 (v_c0 (v_cI (by show n0 = n0 - 0; omega) (v_cI (by first | rfl | omega) rfl))))))))))))))))))))))) rfl ?_
                            exact L1371 (7 - 0 + 1) 0 ((mgF ξ 0 t).1) (by omega) (by omega) ZK_0 (by omega)
                        · refine v_iload 19 K dL_law_1331 rfl ?_
                          refine v_goto 1338 K dL_law_1333 (by decide) ?_
                          refine v_istore [(23, .int (iZ nx)), (17, .int (iZ 1)), (0, .ref (σ.1.1)), (1, .ref (vAd X 0)), (2, .int (iZ (s : Int))), (3, .int (iZ (n : Int))), (4, .ref (vAd X 49)), (5, .ref (vAd X 50)), (6, .ref (vAd X 51)), (7, .int (iZ 1)), (8, .int (iZ z)), (9, .int (iZ (i : Int))), (13, .int (iZ ru)), (14, .int (iZ mo)), (15, .int (iZ (k : Int))), (16, .int (iZ (P : Int))), (18, .ref ga), (19, .ref gb), (20, .int (iZ gs)), (21, .int (iZ ((mgF ξ 0 t).1))), (22, .int (iZ nx))] K dL_law_1338 (by decide) rfl ?_
                          refine v_iload 12 K dL_law_1340 rfl ?_
                          refine v_bipush K dL_law_1342 (by decide) ?_
                          refine v_icmp_ne 1423 K dL_law_1344 (by decide) (by omega) (by decide) (fun c1344 => ?_) (fun c1344 => (by exfalso; omega))
                          obtain ⟨c, hcn, hcc⟩ := FG_ge (by omega) hPn hpcx hge3 (by omega)
                          have hNX : NX ξ ξ ru l (c : Int) := Or.inr (Or.inl ⟨by omega, rfl, by rw [← hcc, ← hPl]; exact hge3⟩)
                          have hzz : (ξ = ξ ∧ z = z) ∨ (ξ = upM ξ 0 6 z ∧ 1 ≤ z ∧ z ≤ 2147483646) := Or.inl ⟨rfl, rfl⟩
                          refine v_sub [2, 3, 4, 5, 6, 7, 8, 9, 10, 11, 12, 13, 14, 15, 1, 16, 17, 18, 19, 20, 0] rfl ?_
                          refine v_eq (lv1 := [(0, .ref (σ.1.1)), (1, .ref (vAd X 0)), (2, .int (iZ (s : Int))), (3, .int (iZ (n : Int))), (4, .ref (vAd X 49)), (5, .ref (vAd X 50)), (6, .ref (vAd X 51)), (7, .int (iZ 1)), (8, .int (iZ z)), (9, .int (iZ (i : Int))), (13, .int (iZ ru)), (14, .int (iZ mo)), (15, .int (iZ (k : Int))), (16, .int (iZ (P : Int))), (17, .int (iZ 1)), (18, .ref ga), (19, .ref gb), (20, .int (iZ gs)), (21, .int (iZ ((mgF ξ 0 t).1))), (22, .int (iZ nx)), (23, .int (iZ (c : Int)))]) (st1 := []) (v_c0 (v_c0 (v_c0 (v_c0 (v_c0 (v_c0 (v_c0 (v_c0 (v_c0 (v_c0 (v_c0 (v_c0 (v_c0 (v_c0 (v_c0 (v_c0 (v_c0 (v_c0 (v_c0 (v_c0 (v_cI (by first | (rw [hcc]; done) | (rw [hmgt, hcc]; done)) rfl))))))))))))))))))))) rfl ?_
                          exact L1423 c ξ z hcn hNX hzz
                    · have hmg := mgF_rng hWx (y := 0) t (by omega)
                      have hmg2 := mgF_gn ξ 0 t
                      have hmg3 := hmg2.1
                      have hgt := gn_rng hWx (y := 0) (p := t) (by omega)
                      refine v_aload 15 K dL_law_1266 rfl ?_
                      refine v_iload 20 K dL_law_1268 rfl ?_
                      refine v_xald 0 t K rfl rfl (by omega) (by omega) dL_law_1270 ?_
                      refine v_top (b := (gn ξ 0 t)) (by rw [(hge1 t (by omega)).1]) ?_
                      refine v_if_le 1297 K dL_law_1271 (by decide) (by omega) (fun c1271 => ?_) (fun c1271 => ?_)
                      · refine v_iload 18 K dL_law_1297 rfl ?_
                        refine v_istore [(21, .int (iZ ((mgF ξ 0 t).1))), (0, .ref (σ.1.1)), (1, .ref (vAd X 0)), (2, .int (iZ (s : Int))), (3, .int (iZ (n : Int))), (4, .ref (vAd X 49)), (5, .ref (vAd X 50)), (6, .ref (vAd X 51)), (7, .int (iZ 1)), (8, .int (iZ z)), (9, .int (iZ (i : Int))), (13, .int (iZ ru)), (14, .int (iZ mo)), (15, .int (iZ (k : Int))), (16, .int (iZ (P : Int))), (17, .int (iZ go)), (18, .ref ga), (19, .ref gb), (20, .int (iZ gs)), (22, .int (iZ nx)), (23, .int (iZ (t : Int)))] K dL_law_1299 (by decide) rfl ?_
                        refine v_iinc 20 [(23, .int (iZ ((t : Int) + 1))), (21, .int (iZ ((mgF ξ 0 t).1))), (0, .ref (σ.1.1)), (1, .ref (vAd X 0)), (2, .int (iZ (s : Int))), (3, .int (iZ (n : Int))), (4, .ref (vAd X 49)), (5, .ref (vAd X 50)), (6, .ref (vAd X 51)), (7, .int (iZ 1)), (8, .int (iZ z)), (9, .int (iZ (i : Int))), (13, .int (iZ ru)), (14, .int (iZ mo)), (15, .int (iZ (k : Int))), (16, .int (iZ (P : Int))), (17, .int (iZ go)), (18, .ref ga), (19, .ref gb), (20, .int (iZ gs)), (22, .int (iZ nx))] K dL_law_1301 rfl (by decide) rfl ?_
                        refine v_goto 1260 K dL_law_1304 (by decide) ?_
                        refine v_sub [2, 3, 4, 5, 6, 7, 8, 9, 10, 11, 12, 13, 14, 15, 16, 17, 18, 19, 1, 20, 0] rfl ?_
                        refine v_eq (lv1 := [(0, .ref (σ.1.1)), (1, .ref (vAd X 0)), (2, .int (iZ (s : Int))), (3, .int (iZ (n : Int))), (4, .ref (vAd X 49)), (5, .ref (vAd X 50)), (6, .ref (vAd X 51)), (7, .int (iZ 1)), (8, .int (iZ z)), (9, .int (iZ (i : Int))), (13, .int (iZ ru)), (14, .int (iZ mo)), (15, .int (iZ (k : Int))), (16, .int (iZ (P : Int))), (17, .int (iZ go)), (18, .ref ga), (19, .ref gb), (20, .int (iZ gs)), (21, .int (iZ ((mgF ξ 0 (t + 1)).1))), (22, .int (iZ nx)), (23, .int (iZ (((t + 1) : Nat) : Int)))]) (st1 := []) (v_c0 (v_c0 (v_c0 (v_c0 (v_c0 (v_c0 (v_c0 (v_c0 (v_c0 (v_c0 (v_c0 (v_c0 (v_c0 (v_c0 (v_c0 (v_c0 (v_c0 (v_c0 (v_cI (by first | (rw [mgF_y (by omega)]; done) | (rw [mgF_n (by omega)]; done)) (v_c0 (v_cI (by first | rfl | omega) rfl))))))))))))))))))))) rfl ?_
                        exact ih1260 (t + 1) (by omega) (by omega)
                      · refine v_iload 18 K dL_law_1274 rfl ?_
                        refine v_if_lt 1292 K dL_law_1276 (by decide) (by omega) (fun c1276 => ?_) (fun c1276 => ?_)
                        · refine v_iload 20 K dL_law_1292 rfl ?_
                          refine v_goto 1299 K dL_law_1294 (by decide) ?_
                          refine v_istore [(21, .int (iZ (t : Int))), (0, .ref (σ.1.1)), (1, .ref (vAd X 0)), (2, .int (iZ (s : Int))), (3, .int (iZ (n : Int))), (4, .ref (vAd X 49)), (5, .ref (vAd X 50)), (6, .ref (vAd X 51)), (7, .int (iZ 1)), (8, .int (iZ z)), (9, .int (iZ (i : Int))), (13, .int (iZ ru)), (14, .int (iZ mo)), (15, .int (iZ (k : Int))), (16, .int (iZ (P : Int))), (17, .int (iZ go)), (18, .ref ga), (19, .ref gb), (20, .int (iZ gs)), (22, .int (iZ nx)), (23, .int (iZ (t : Int)))] K dL_law_1299 (by decide) rfl ?_
                          refine v_iinc 20 [(23, .int (iZ ((t : Int) + 1))), (21, .int (iZ (t : Int))), (0, .ref (σ.1.1)), (1, .ref (vAd X 0)), (2, .int (iZ (s : Int))), (3, .int (iZ (n : Int))), (4, .ref (vAd X 49)), (5, .ref (vAd X 50)), (6, .ref (vAd X 51)), (7, .int (iZ 1)), (8, .int (iZ z)), (9, .int (iZ (i : Int))), (13, .int (iZ ru)), (14, .int (iZ mo)), (15, .int (iZ (k : Int))), (16, .int (iZ (P : Int))), (17, .int (iZ go)), (18, .ref ga), (19, .ref gb), (20, .int (iZ gs)), (22, .int (iZ nx))] K dL_law_1301 rfl (by decide) rfl ?_
                          refine v_goto 1260 K dL_law_1304 (by decide) ?_
                          refine v_sub [2, 3, 4, 5, 6, 7, 8, 9, 10, 11, 12, 13, 14, 15, 16, 17, 18, 19, 1, 20, 0] rfl ?_
                          refine v_eq (lv1 := [(0, .ref (σ.1.1)), (1, .ref (vAd X 0)), (2, .int (iZ (s : Int))), (3, .int (iZ (n : Int))), (4, .ref (vAd X 49)), (5, .ref (vAd X 50)), (6, .ref (vAd X 51)), (7, .int (iZ 1)), (8, .int (iZ z)), (9, .int (iZ (i : Int))), (13, .int (iZ ru)), (14, .int (iZ mo)), (15, .int (iZ (k : Int))), (16, .int (iZ (P : Int))), (17, .int (iZ go)), (18, .ref ga), (19, .ref gb), (20, .int (iZ gs)), (21, .int (iZ ((mgF ξ 0 (t + 1)).1))), (22, .int (iZ nx)), (23, .int (iZ (((t + 1) : Nat) : Int)))]) (st1 := []) (v_c0 (v_c0 (v_c0 (v_c0 (v_c0 (v_c0 (v_c0 (v_c0 (v_c0 (v_c0 (v_c0 (v_c0 (v_c0 (v_c0 (v_c0 (v_c0 (v_c0 (v_c0 (v_cI (by first | (rw [mgF_y (by omega)]; done) | (rw [mgF_n (by omega)]; done)) (v_c0 (v_cI (by first | rfl | omega) rfl))))))))))))))))))))) rfl ?_
                          exact ih1260 (t + 1) (by omega) (by omega)
                        · refine v_aload 15 K dL_law_1279 rfl ?_
                          refine v_iload 20 K dL_law_1281 rfl ?_
                          refine v_xald 0 t K rfl rfl (by omega) (by omega) dL_law_1283 ?_
                          refine v_top (b := (gn ξ 0 t)) (by rw [(hge1 t (by omega)).1]) ?_
                          refine v_aload 15 K dL_law_1284 rfl ?_
                          refine v_iload 18 K dL_law_1286 rfl ?_
                          refine v_xald 0 ((((mgF ξ 0 t).1)).toNat) K rfl (by omega) (by omega) (by omega) dL_law_1288 ?_
                          refine v_top (b := (mgF ξ 0 t).2) (by rw [(hge1 _ (by omega)).1]; exact congrArg iZ (hmg2.2 _ (by omega))) ?_
                          refine v_icmp_le 1297 K dL_law_1289 (by decide) (by omega) (by omega) (fun c1289 => ?_) (fun c1289 => ?_)
                          · refine v_iload 18 K dL_law_1297 rfl ?_
                            refine v_istore [(21, .int (iZ ((mgF ξ 0 t).1))), (0, .ref (σ.1.1)), (1, .ref (vAd X 0)), (2, .int (iZ (s : Int))), (3, .int (iZ (n : Int))), (4, .ref (vAd X 49)), (5, .ref (vAd X 50)), (6, .ref (vAd X 51)), (7, .int (iZ 1)), (8, .int (iZ z)), (9, .int (iZ (i : Int))), (13, .int (iZ ru)), (14, .int (iZ mo)), (15, .int (iZ (k : Int))), (16, .int (iZ (P : Int))), (17, .int (iZ go)), (18, .ref ga), (19, .ref gb), (20, .int (iZ gs)), (22, .int (iZ nx)), (23, .int (iZ (t : Int)))] K dL_law_1299 (by decide) rfl ?_
                            refine v_iinc 20 [(23, .int (iZ ((t : Int) + 1))), (21, .int (iZ ((mgF ξ 0 t).1))), (0, .ref (σ.1.1)), (1, .ref (vAd X 0)), (2, .int (iZ (s : Int))), (3, .int (iZ (n : Int))), (4, .ref (vAd X 49)), (5, .ref (vAd X 50)), (6, .ref (vAd X 51)), (7, .int (iZ 1)), (8, .int (iZ z)), (9, .int (iZ (i : Int))), (13, .int (iZ ru)), (14, .int (iZ mo)), (15, .int (iZ (k : Int))), (16, .int (iZ (P : Int))), (17, .int (iZ go)), (18, .ref ga), (19, .ref gb), (20, .int (iZ gs)), (22, .int (iZ nx))] K dL_law_1301 rfl (by decide) rfl ?_
                            refine v_goto 1260 K dL_law_1304 (by decide) ?_
                            refine v_sub [2, 3, 4, 5, 6, 7, 8, 9, 10, 11, 12, 13, 14, 15, 16, 17, 18, 19, 1, 20, 0] rfl ?_
                            refine v_eq (lv1 := [(0, .ref (σ.1.1)), (1, .ref (vAd X 0)), (2, .int (iZ (s : Int))), (3, .int (iZ (n : Int))), (4, .ref (vAd X 49)), (5, .ref (vAd X 50)), (6, .ref (vAd X 51)), (7, .int (iZ 1)), (8, .int (iZ z)), (9, .int (iZ (i : Int))), (13, .int (iZ ru)), (14, .int (iZ mo)), (15, .int (iZ (k : Int))), (16, .int (iZ (P : Int))), (17, .int (iZ go)), (18, .ref ga), (19, .ref gb), (20, .int (iZ gs)), (21, .int (iZ ((mgF ξ 0 (t + 1)).1))), (22, .int (iZ nx)), (23, .int (iZ (((t + 1) : Nat) : Int)))]) (st1 := []) (v_c0 (v_c0 (v_c0 (v_c0 (v_c0 (v_c0 (v_c0 (v_c0 (v_c0 (v_c0 (v_c0 (v_c0 (v_c0 (v_c0 (v_c0 (v_c0 (v_c0 (v_c0 (v_cI (by first | (rw [mgF_y (by omega)]; done) | (rw [mgF_n (by omega)]; done)) (v_c0 (v_cI (by first | rfl | omega) rfl))))))))))))))))))))) rfl ?_
                            exact ih1260 (t + 1) (by omega) (by omega)
                          · refine v_iload 20 K dL_law_1292 rfl ?_
                            refine v_goto 1299 K dL_law_1294 (by decide) ?_
                            refine v_istore [(21, .int (iZ (t : Int))), (0, .ref (σ.1.1)), (1, .ref (vAd X 0)), (2, .int (iZ (s : Int))), (3, .int (iZ (n : Int))), (4, .ref (vAd X 49)), (5, .ref (vAd X 50)), (6, .ref (vAd X 51)), (7, .int (iZ 1)), (8, .int (iZ z)), (9, .int (iZ (i : Int))), (13, .int (iZ ru)), (14, .int (iZ mo)), (15, .int (iZ (k : Int))), (16, .int (iZ (P : Int))), (17, .int (iZ go)), (18, .ref ga), (19, .ref gb), (20, .int (iZ gs)), (22, .int (iZ nx)), (23, .int (iZ (t : Int)))] K dL_law_1299 (by decide) rfl ?_
                            refine v_iinc 20 [(23, .int (iZ ((t : Int) + 1))), (21, .int (iZ (t : Int))), (0, .ref (σ.1.1)), (1, .ref (vAd X 0)), (2, .int (iZ (s : Int))), (3, .int (iZ (n : Int))), (4, .ref (vAd X 49)), (5, .ref (vAd X 50)), (6, .ref (vAd X 51)), (7, .int (iZ 1)), (8, .int (iZ z)), (9, .int (iZ (i : Int))), (13, .int (iZ ru)), (14, .int (iZ mo)), (15, .int (iZ (k : Int))), (16, .int (iZ (P : Int))), (17, .int (iZ go)), (18, .ref ga), (19, .ref gb), (20, .int (iZ gs)), (22, .int (iZ nx))] K dL_law_1301 rfl (by decide) rfl ?_
                            refine v_goto 1260 K dL_law_1304 (by decide) ?_
                            refine v_sub [2, 3, 4, 5, 6, 7, 8, 9, 10, 11, 12, 13, 14, 15, 16, 17, 18, 19, 1, 20, 0] rfl ?_
                            refine v_eq (lv1 := [(0, .ref (σ.1.1)), (1, .ref (vAd X 0)), (2, .int (iZ (s : Int))), (3, .int (iZ (n : Int))), (4, .ref (vAd X 49)), (5, .ref (vAd X 50)), (6, .ref (vAd X 51)), (7, .int (iZ 1)), (8, .int (iZ z)), (9, .int (iZ (i : Int))), (13, .int (iZ ru)), (14, .int (iZ mo)), (15, .int (iZ (k : Int))), (16, .int (iZ (P : Int))), (17, .int (iZ go)), (18, .ref ga), (19, .ref gb), (20, .int (iZ gs)), (21, .int (iZ ((mgF ξ 0 (t + 1)).1))), (22, .int (iZ nx)), (23, .int (iZ (((t + 1) : Nat) : Int)))]) (st1 := []) (v_c0 (v_c0 (v_c0 (v_c0 (v_c0 (v_c0 (v_c0 (v_c0 (v_c0 (v_c0 (v_c0 (v_c0 (v_c0 (v_c0 (v_c0 (v_c0 (v_c0 (v_c0 (v_cI (by first | (rw [mgF_y (by omega)]; done) | (rw [mgF_n (by omega)]; done)) (v_c0 (v_cI (by first | rfl | omega) rfl))))))))))))))))))))) rfl ?_
                            exact ih1260 (t + 1) (by omega) (by omega)
                refine v_sub [1, 2, 3, 4, 5, 6, 7, 8, 9, 10, 11, 12, 13, 14, 15, 16, 17, 18, 19, 20, 0] rfl ?_
                refine v_eq (lv1 := [(0, .ref (σ.1.1)), (1, .ref (vAd X 0)), (2, .int (iZ (s : Int))), (3, .int (iZ (n : Int))), (4, .ref (vAd X 49)), (5, .ref (vAd X 50)), (6, .ref (vAd X 51)), (7, .int (iZ 1)), (8, .int (iZ z)), (9, .int (iZ (i : Int))), (13, .int (iZ ru)), (14, .int (iZ mo)), (15, .int (iZ (k : Int))), (16, .int (iZ (P : Int))), (17, .int (iZ go)), (18, .ref ga), (19, .ref gb), (20, .int (iZ gs)), (21, .int (iZ ((mgF ξ 0 0).1))), (22, .int (iZ nx)), (23, .int (iZ ((0 : Nat) : Int)))]) (st1 := []) (v_c0 (v_c0 (v_c0 (v_c0 (v_c0 (v_c0 (v_c0 (v_c0 (v_c0 (v_c0 (v_c0 (v_c0 (v_c0 (v_c0 (v_c0 (v_c0 (v_c0 (v_c0 (v_cI rfl (v_c0 (v_cI (by first | rfl | omega) rfl))))))))))))))))))))) rfl ?_
                exact L1260 (7 - 0 + 1) 0 (by omega) (by omega)
              · obtain ⟨q, hqd⟩ : ∃ q, (P + j) % n = q := ⟨_, rfl⟩
                have hq : q < n := by rw [← hqd]; exact Nat.mod_lt _ (by omega)
                obtain ⟨hb50, hled, hledr⟩ := hf3_ q hq
                obtain ⟨hf1, hf2, hf3⟩ := hf4_ q hq
                have hfq : fg q = 0 := by rw [← hqd]; exact hGK.2.1 j (Nat.le_refl _) (by omega)
                have hc0 := cst_rng hWx (y := 0) (p := q) (by omega) (ξ (5 + 2 * 0) q)
                have hgnr := gn_rng hWx (y := 0) (p := q) (by omega)
                refine v_iload 13 K dL_law_1049 rfl ?_
                refine v_iload 20 K dL_law_1051 rfl ?_
                refine v_iadd K dL_law_1053 ?_
                refine v_iload_n 3 K dL_law_1054 rfl ?_
                refine v_irem (by omega) (by omega) K dL_law_1055 ?_
                refine v_top (b := (q : Int)) (congrArg iZ (by rw [← hqd]; first | rfl | simp)) ?_
                refine v_istore [(24, .int (iZ (q : Int))), (0, .ref (σ.1.1)), (1, .ref (vAd X 0)), (2, .int (iZ (s : Int))), (3, .int (iZ (n : Int))), (4, .ref (vAd X 49)), (5, .ref (vAd X 50)), (6, .ref (vAd X 51)), (7, .int (iZ 1)), (8, .int (iZ z)), (9, .int (iZ (i : Int))), (13, .int (iZ ru)), (14, .int (iZ mo)), (15, .int (iZ (k : Int))), (16, .int (iZ (P : Int))), (17, .int (iZ go)), (18, .ref ga), (19, .ref gb), (20, .int (iZ gs)), (21, .int (iZ (-1))), (22, .int (iZ nx)), (23, .int (iZ (j : Int)))] K dL_law_1056 (by decide) rfl ?_
                refine v_aload 5 K dL_law_1058 rfl ?_
                refine v_iload_n 3 K dL_law_1060 rfl ?_
                refine v_aload 6 K dL_law_1061 rfl ?_
                refine v_iload_n 4 K dL_law_1063 rfl ?_
                refine v_iload 0 K dL_law_1064 rfl ?_
                refine v_callSir (As := [.ref (vAd X 49), .int (iZ (s : Int)), .ref (vAd X 50), .int (iZ (n : Int)), .int (iZ (q : Int))]) (rest := []) K 5 (c_L_cost X.1.2.1 K.2.2.2.2.2.2 _ _ _ ν s n q hRO hPO (by omega)) gL_law_L_cost rfl rfl rfl (by decide +kernel) ⟨(Nat.le_of_ble_eq_true rfl), (Nat.le_of_ble_eq_true rfl)⟩ rfl rfl (Nat.le_of_ble_eq_true rfl) dL_law_1066 ⟨(by show (((kc + 2 * (20 - (2 * (8 - k) + (Int.toNat go)))) + 1) + 1) + 0 ≤ 600258; omega), (by show (((ks + 10 * (20 - (2 * (8 - k) + (Int.toNat go)))) + n) + n) + 0 ≤ 7292426; omega)⟩ ?_
                refine v_top (b := (cst ξ 0 q (ξ (5 + 2 * 0) q))) (by rw [hf1_ q hq]) ?_
                refine v_istore [(25, .int (iZ (cst ξ 0 q (ξ (5 + 2 * 0) q)))), (24, .int (iZ (q : Int))), (0, .ref (σ.1.1)), (1, .ref (vAd X 0)), (2, .int (iZ (s : Int))), (3, .int (iZ (n : Int))), (4, .ref (vAd X 49)), (5, .ref (vAd X 50)), (6, .ref (vAd X 51)), (7, .int (iZ 1)), (8, .int (iZ z)), (9, .int (iZ (i : Int))), (13, .int (iZ ru)), (14, .int (iZ mo)), (15, .int (iZ (k : Int))), (16, .int (iZ (P : Int))), (17, .int (iZ go)), (18, .ref ga), (19, .ref gb), (20, .int (iZ gs)), (21, .int (iZ (-1))), (22, .int (iZ nx)), (23, .int (iZ (j : Int)))] K dL_law_1069 (by decide) rfl ?_
                refine v_aload 18 K dL_law_1071 rfl ?_
                refine v_iload 1 K dL_law_1073 rfl ?_
                refine v_aload 7 K dL_law_1075 rfl ?_
                refine v_iconst K dL_law_1077 ?_
                refine v_iload 1 K dL_law_1078 rfl ?_
                refine v_imul K dL_law_1080 ?_
                refine v_iconst K dL_law_1081 ?_
                refine v_iadd K dL_law_1082 ?_
                refine v_iald (c := 50) ((4 * q) + 2) K isI_50 (by omega) (by omega) dL_law_1083 ?_
                refine v_top (b := (bits ξ q (bsF ξ 0 q 0))) (by rw [hb50]) ?_
                refine v_xast (ex' := [xi X ga n fg, xi X gb n (upF fb q (bits ξ q (bsF ξ 0 q 0)))]) 1 q K rfl rfl (by omega) (by omega) dL_law_1084 rfl ?_
                refine v_iconst K dL_law_1085 ?_
                refine v_istore [(26, .int (iZ 0)), (25, .int (iZ (cst ξ 0 q (ξ (5 + 2 * 0) q)))), (24, .int (iZ (q : Int))), (0, .ref (σ.1.1)), (1, .ref (vAd X 0)), (2, .int (iZ (s : Int))), (3, .int (iZ (n : Int))), (4, .ref (vAd X 49)), (5, .ref (vAd X 50)), (6, .ref (vAd X 51)), (7, .int (iZ 1)), (8, .int (iZ z)), (9, .int (iZ (i : Int))), (13, .int (iZ ru)), (14, .int (iZ mo)), (15, .int (iZ (k : Int))), (16, .int (iZ (P : Int))), (17, .int (iZ go)), (18, .ref ga), (19, .ref gb), (20, .int (iZ gs)), (21, .int (iZ (-1))), (22, .int (iZ nx)), (23, .int (iZ (j : Int)))] K dL_law_1086 (by decide) rfl ?_
                have L1088 : ∀ (fuel : Nat) (w : Nat) (hm : 4 - w < fuel) (hw : w ≤ 3), vY X 28 1088 (((kc + 2 * (20 - (2 * (8 - k) + (Int.toNat go)))) + 1) + 1) (((ks + 10 * (20 - (2 * (8 - k) + (Int.toNat go)))) + n) + n) [(0, .ref (σ.1.1)), (1, .ref (vAd X 0)), (2, .int (iZ (s : Int))), (3, .int (iZ (n : Int))), (4, .ref (vAd X 49)), (5, .ref (vAd X 50)), (6, .ref (vAd X 51)), (7, .int (iZ 1)), (8, .int (iZ z)), (9, .int (iZ (i : Int))), (13, .int (iZ ru)), (14, .int (iZ mo)), (15, .int (iZ (k : Int))), (16, .int (iZ (P : Int))), (17, .int (iZ go)), (18, .ref ga), (19, .ref gb), (20, .int (iZ gs)), (21, .int (iZ (-1))), (22, .int (iZ nx)), (23, .int (iZ (j : Int))), (24, .int (iZ (q : Int))), (25, .int (iZ (cst ξ 0 q (ξ (5 + 2 * 0) q)))), (26, .int (iZ (w : Int)))] [] ν [xi X ga n (upF fg q (cst ξ 0 q (ξ (5 + 2 * 0) q) - cst ξ 0 q (bsF ξ 0 q w))), xi X gb n (upF fb q (bits ξ q (bsF ξ 0 q w)))] := by
                  intro fuel
                  induction fuel with
                  | zero => intro w hm; exact absurd hm (Nat.not_lt_zero _)
                  | succ fuel ih1088 =>
                    intro w hm hw
                    refine v_iload 23 K dL_law_1088 rfl ?_
                    refine v_iconst K dL_law_1090 ?_
                    refine v_icmp_ge 1184 K dL_law_1091 (by decide) (by omega) (by decide) (fun c1091 => ?_) (fun c1091 => ?_)
                    · have hc2 := cst_rng hWx (y := 0) (p := q) (by omega) (bsF ξ 0 q w)
                      refine v_aload 15 K dL_law_1184 rfl ?_
                      refine v_iload 21 K dL_law_1186 rfl ?_
                      refine v_aload 5 K dL_law_1188 rfl ?_
                      refine v_iconst K dL_law_1190 ?_
                      refine v_iload 21 K dL_law_1191 rfl ?_
                      refine v_imul K dL_law_1193 ?_
                      refine v_iconst K dL_law_1194 ?_
                      refine v_iadd K dL_law_1195 ?_
                      refine v_iald (c := 50) ((4 * q) + 3) K isI_50 (by omega) (by omega) dL_law_1196 ?_
                      refine v_top (b := (ξ (37 + q) 2)) (by rw [hled]) ?_
                      refine v_iconst K dL_law_1197 ?_
                      refine v_icmp_ne 1205 K dL_law_1198 (by decide) (by omega) (by decide) (fun c1198 => ?_) (fun c1198 => ?_)
                      · have hgn : gn ξ 0 q = cst ξ 0 q (ξ (5 + 2 * 0) q) - cst ξ 0 q (bsF ξ 0 q w) := by rw [hf2 (by omega), show 3 = w by omega]
                        refine v_aload 15 K dL_law_1205 rfl ?_
                        refine v_iload 21 K dL_law_1207 rfl ?_
                        refine v_xald 0 q K rfl rfl (by omega) (by omega) dL_law_1209 ?_
                        refine v_top (b := (cst ξ 0 q (ξ (5 + 2 * 0) q) - cst ξ 0 q (bsF ξ 0 q w))) (by rw [upF_self]) ?_
                        refine v_xast (ex' := [xi X ga n (upF (upF fg q (cst ξ 0 q (ξ (5 + 2 * 0) q) - cst ξ 0 q (bsF ξ 0 q w))) q (cst ξ 0 q (ξ (5 + 2 * 0) q) - cst ξ 0 q (bsF ξ 0 q w))), xi X gb n (upF fb q (bits ξ q (bsF ξ 0 q w)))]) 0 q K rfl rfl (by omega) (by omega) dL_law_1210 rfl ?_
                        refine v_ex (ex' := [xi X ga n (upF fg q (gn ξ 0 q)), xi X gb n (upF fb q (bits ξ q (bsF ξ 0 q w)))]) (by rw [upF_up, hgn]) ?_
                        have L1231 : ∀ (nx2 : Int) (hnx2 : (nx2 = nx ∧ (0 ≤ nx ∨ gn ξ 0 q ≤ 0)) ∨ (nx2 = (q : Int) ∧ nx < 0 ∧ 0 < gn ξ 0 q)), vY X 28 1231 (((kc + 2 * (20 - (2 * (8 - k) + (Int.toNat go)))) + 1) + 1) (((ks + 10 * (20 - (2 * (8 - k) + (Int.toNat go)))) + n) + n) [(0, .ref (σ.1.1)), (1, .ref (vAd X 0)), (2, .int (iZ (s : Int))), (3, .int (iZ (n : Int))), (4, .ref (vAd X 49)), (5, .ref (vAd X 50)), (6, .ref (vAd X 51)), (7, .int (iZ 1)), (8, .int (iZ z)), (9, .int (iZ (i : Int))), (13, .int (iZ ru)), (14, .int (iZ mo)), (15, .int (iZ (k : Int))), (16, .int (iZ (P : Int))), (17, .int (iZ go)), (18, .ref ga), (19, .ref gb), (20, .int (iZ gs)), (21, .int (iZ (-1))), (22, .int (iZ nx)), (23, .int (iZ (j : Int))), (24, .int (iZ (q : Int))), (25, .int (iZ (cst ξ 0 q (ξ (5 + 2 * 0) q)))), (26, .int (iZ (w : Int)))] [.int (iZ nx2)] ν [xi X ga n (upF fg q (gn ξ 0 q)), xi X gb n (upF fb q (bits ξ q (bsF ξ 0 q w)))] := by
                          intro nx2 hnx2
                          refine v_istore [(22, .int (iZ nx2)), (0, .ref (σ.1.1)), (1, .ref (vAd X 0)), (2, .int (iZ (s : Int))), (3, .int (iZ (n : Int))), (4, .ref (vAd X 49)), (5, .ref (vAd X 50)), (6, .ref (vAd X 51)), (7, .int (iZ 1)), (8, .int (iZ z)), (9, .int (iZ (i : Int))), (13, .int (iZ ru)), (14, .int (iZ mo)), (15, .int (iZ (k : Int))), (16, .int (iZ (P : Int))), (17, .int (iZ go)), (18, .ref ga), (19, .ref gb), (20, .int (iZ gs)), (21, .int (iZ (-1))), (23, .int (iZ (j : Int))), (24, .int (iZ (q : Int))), (25, .int (iZ (cst ξ 0 q (ξ (5 + 2 * 0) q)))), (26, .int (iZ (w : Int)))] K dL_law_1231 (by decide) rfl ?_
                          have L1248 : ∀ (dg : Int) (hdg : dg = if 0 < gn ξ 0 q then 1 else 0), vY X 28 1248 (((kc + 2 * (20 - (2 * (8 - k) + (Int.toNat go)))) + 1) + 1) (((ks + 10 * (20 - (2 * (8 - k) + (Int.toNat go)))) + n) + n) [(0, .ref (σ.1.1)), (1, .ref (vAd X 0)), (2, .int (iZ (s : Int))), (3, .int (iZ (n : Int))), (4, .ref (vAd X 49)), (5, .ref (vAd X 50)), (6, .ref (vAd X 51)), (7, .int (iZ 1)), (8, .int (iZ z)), (9, .int (iZ (i : Int))), (13, .int (iZ ru)), (14, .int (iZ mo)), (15, .int (iZ (k : Int))), (16, .int (iZ (P : Int))), (17, .int (iZ go)), (18, .ref ga), (19, .ref gb), (20, .int (iZ gs)), (21, .int (iZ (-1))), (22, .int (iZ nx2)), (23, .int (iZ (j : Int))), (24, .int (iZ (q : Int))), (25, .int (iZ (cst ξ 0 q (ξ (5 + 2 * 0) q)))), (26, .int (iZ (w : Int)))] [.int (iZ dg), .int (iZ gs)] ν [xi X ga n (upF fg q (gn ξ 0 q)), xi X gb n (upF fb q (bits ξ q (bsF ξ 0 q w)))] := by
                            intro dg hdg
                            refine v_iadd K dL_law_1248 ?_
                            refine v_istore [(20, .int (iZ (gs + dg))), (0, .ref (σ.1.1)), (1, .ref (vAd X 0)), (2, .int (iZ (s : Int))), (3, .int (iZ (n : Int))), (4, .ref (vAd X 49)), (5, .ref (vAd X 50)), (6, .ref (vAd X 51)), (7, .int (iZ 1)), (8, .int (iZ z)), (9, .int (iZ (i : Int))), (13, .int (iZ ru)), (14, .int (iZ mo)), (15, .int (iZ (k : Int))), (16, .int (iZ (P : Int))), (17, .int (iZ go)), (18, .ref ga), (19, .ref gb), (21, .int (iZ (-1))), (22, .int (iZ nx2)), (23, .int (iZ (j : Int))), (24, .int (iZ (q : Int))), (25, .int (iZ (cst ξ 0 q (ξ (5 + 2 * 0) q)))), (26, .int (iZ (w : Int)))] K dL_law_1249 (by decide) rfl ?_
                            refine v_iinc 20 [(23, .int (iZ ((j : Int) + 1))), (20, .int (iZ (gs + dg))), (0, .ref (σ.1.1)), (1, .ref (vAd X 0)), (2, .int (iZ (s : Int))), (3, .int (iZ (n : Int))), (4, .ref (vAd X 49)), (5, .ref (vAd X 50)), (6, .ref (vAd X 51)), (7, .int (iZ 1)), (8, .int (iZ z)), (9, .int (iZ (i : Int))), (13, .int (iZ ru)), (14, .int (iZ mo)), (15, .int (iZ (k : Int))), (16, .int (iZ (P : Int))), (17, .int (iZ go)), (18, .ref ga), (19, .ref gb), (21, .int (iZ (-1))), (22, .int (iZ nx2)), (24, .int (iZ (q : Int))), (25, .int (iZ (cst ξ 0 q (ξ (5 + 2 * 0) q)))), (26, .int (iZ (w : Int)))] K dL_law_1251 rfl (by decide) rfl ?_
                            refine v_goto 1043 K dL_law_1254 (by decide) ?_
                            refine v_sub [2, 3, 4, 5, 6, 7, 8, 9, 10, 11, 12, 13, 14, 15, 16, 17, 18, 1, 19, 20, 0] rfl ?_
                            refine v_eq (lv1 := [(0, .ref (σ.1.1)), (1, .ref (vAd X 0)), (2, .int (iZ (s : Int))), (3, .int (iZ (n : Int))), (4, .ref (vAd X 49)), (5, .ref (vAd X 50)), (6, .ref (vAd X 51)), (7, .int (iZ 1)), (8, .int (iZ z)), (9, .int (iZ (i : Int))), (13, .int (iZ ru)), (14, .int (iZ mo)), (15, .int (iZ (k : Int))), (16, .int (iZ (P : Int))), (17, .int (iZ go)), (18, .ref ga), (19, .ref gb), (20, .int (iZ (gs + dg))), (21, .int (iZ (-1))), (22, .int (iZ nx2)), (23, .int (iZ (((j + 1) : Nat) : Int)))]) (st1 := []) (v_c0 (v_c0 (v_c0 (v_c0 (v_c0 (v_c0 (v_c0 (v_c0 (v_c0 (v_c0 (v_c0 (v_c0 (v_c0 (v_c0 (v_c0 (v_c0 (v_c0 (v_c0 (v_c0 (v_c0 (v_cI (by first | rfl | omega) rfl))))))))))))))))))))) rfl ?_
                            exact ih1043 (j + 1) (gs + dg) nx2 (upF fg q (gn ξ 0 q)) (upF fb q (bits ξ q (bsF ξ 0 q w))) (by omega) (by omega) (GK_s (g := gn ξ 0 q) (by omega) (by omega) (by omega) hqd hGK rfl (by rw [hf1, show 3 = w by omega]) (by rw [hdg]) hnx2) (by rw [hdg]; split <;> omega) (by omega)
                          refine v_iload 18 K dL_law_1233 rfl ?_
                          refine v_aload 16 K dL_law_1235 rfl ?_
                          refine v_iload 21 K dL_law_1237 rfl ?_
                          refine v_xald 0 q K rfl rfl (by omega) (by omega) dL_law_1239 ?_
                          refine v_top (b := (gn ξ 0 q)) (by rw [upF_self]) ?_
                          refine v_if_le 1247 K dL_law_1240 (by decide) (by omega) (fun c1240 => ?_) (fun c1240 => ?_)
                          · refine v_iconst K dL_law_1247 ?_
                            refine v_sub [1, 2, 3, 4, 5, 6, 7, 8, 9, 10, 11, 12, 13, 14, 15, 16, 17, 18, 19, 0, 20, 21, 22, 23] rfl ?_
                            exact L1248 0 (by first | (rw [if_pos (by omega)]; done) | (rw [if_neg (by omega)]; done))
                          · refine v_iconst K dL_law_1243 ?_
                            refine v_goto 1248 K dL_law_1244 (by decide) ?_
                            refine v_sub [1, 2, 3, 4, 5, 6, 7, 8, 9, 10, 11, 12, 13, 14, 15, 16, 17, 18, 19, 0, 20, 21, 22, 23] rfl ?_
                            exact L1248 1 (by first | (rw [if_pos (by omega)]; done) | (rw [if_neg (by omega)]; done))
                        refine v_iload 19 K dL_law_1211 rfl ?_
                        refine v_if_ge 1229 K dL_law_1213 (by decide) (by omega) (fun c1213 => ?_) (fun c1213 => ?_)
                        · refine v_iload 19 K dL_law_1229 rfl ?_
                          exact L1231 nx (by first | exact Or.inl ⟨rfl, by omega⟩ | exact Or.inr ⟨rfl, by omega, by omega⟩)
                        · refine v_aload 15 K dL_law_1216 rfl ?_
                          refine v_iload 21 K dL_law_1218 rfl ?_
                          refine v_xald 0 q K rfl rfl (by omega) (by omega) dL_law_1220 ?_
                          refine v_top (b := (gn ξ 0 q)) (by rw [upF_self]) ?_
                          refine v_if_le 1229 K dL_law_1221 (by decide) (by omega) (fun c1221 => ?_) (fun c1221 => ?_)
                          · refine v_iload 19 K dL_law_1229 rfl ?_
                            exact L1231 nx (by first | exact Or.inl ⟨rfl, by omega⟩ | exact Or.inr ⟨rfl, by omega, by omega⟩)
                          · refine v_iload 21 K dL_law_1224 rfl ?_
                            refine v_goto 1231 K dL_law_1226 (by decide) ?_
                            exact L1231 (q : Int) (by first | exact Or.inl ⟨rfl, by omega⟩ | exact Or.inr ⟨rfl, by omega, by omega⟩)
                      · have hgn : gn ξ 0 q = 0 := hf3 (by omega)
                        refine v_iconst K dL_law_1201 ?_
                        refine v_goto 1210 K dL_law_1202 (by decide) ?_
                        refine v_xast (ex' := [xi X ga n (upF (upF fg q (cst ξ 0 q (ξ (5 + 2 * 0) q) - cst ξ 0 q (bsF ξ 0 q w))) q 0), xi X gb n (upF fb q (bits ξ q (bsF ξ 0 q w)))]) 0 q K rfl rfl (by omega) (by omega) dL_law_1210 rfl ?_
                        refine v_ex (ex' := [xi X ga n (upF fg q (gn ξ 0 q)), xi X gb n (upF fb q (bits ξ q (bsF ξ 0 q w)))]) (by rw [upF_up, hgn]) ?_
                        have L1231 : ∀ (nx2 : Int) (hnx2 : (nx2 = nx ∧ (0 ≤ nx ∨ gn ξ 0 q ≤ 0)) ∨ (nx2 = (q : Int) ∧ nx < 0 ∧ 0 < gn ξ 0 q)), vY X 28 1231 (((kc + 2 * (20 - (2 * (8 - k) + (Int.toNat go)))) + 1) + 1) (((ks + 10 * (20 - (2 * (8 - k) + (Int.toNat go)))) + n) + n) [(0, .ref (σ.1.1)), (1, .ref (vAd X 0)), (2, .int (iZ (s : Int))), (3, .int (iZ (n : Int))), (4, .ref (vAd X 49)), (5, .ref (vAd X 50)), (6, .ref (vAd X 51)), (7, .int (iZ 1)), (8, .int (iZ z)), (9, .int (iZ (i : Int))), (13, .int (iZ ru)), (14, .int (iZ mo)), (15, .int (iZ (k : Int))), (16, .int (iZ (P : Int))), (17, .int (iZ go)), (18, .ref ga), (19, .ref gb), (20, .int (iZ gs)), (21, .int (iZ (-1))), (22, .int (iZ nx)), (23, .int (iZ (j : Int))), (24, .int (iZ (q : Int))), (25, .int (iZ (cst ξ 0 q (ξ (5 + 2 * 0) q)))), (26, .int (iZ (w : Int)))] [.int (iZ nx2)] ν [xi X ga n (upF fg q (gn ξ 0 q)), xi X gb n (upF fb q (bits ξ q (bsF ξ 0 q w)))] := by
                          intro nx2 hnx2
                          refine v_istore [(22, .int (iZ nx2)), (0, .ref (σ.1.1)), (1, .ref (vAd X 0)), (2, .int (iZ (s : Int))), (3, .int (iZ (n : Int))), (4, .ref (vAd X 49)), (5, .ref (vAd X 50)), (6, .ref (vAd X 51)), (7, .int (iZ 1)), (8, .int (iZ z)), (9, .int (iZ (i : Int))), (13, .int (iZ ru)), (14, .int (iZ mo)), (15, .int (iZ (k : Int))), (16, .int (iZ (P : Int))), (17, .int (iZ go)), (18, .ref ga), (19, .ref gb), (20, .int (iZ gs)), (21, .int (iZ (-1))), (23, .int (iZ (j : Int))), (24, .int (iZ (q : Int))), (25, .int (iZ (cst ξ 0 q (ξ (5 + 2 * 0) q)))), (26, .int (iZ (w : Int)))] K dL_law_1231 (by decide) rfl ?_
                          have L1248 : ∀ (dg : Int) (hdg : dg = if 0 < gn ξ 0 q then 1 else 0), vY X 28 1248 (((kc + 2 * (20 - (2 * (8 - k) + (Int.toNat go)))) + 1) + 1) (((ks + 10 * (20 - (2 * (8 - k) + (Int.toNat go)))) + n) + n) [(0, .ref (σ.1.1)), (1, .ref (vAd X 0)), (2, .int (iZ (s : Int))), (3, .int (iZ (n : Int))), (4, .ref (vAd X 49)), (5, .ref (vAd X 50)), (6, .ref (vAd X 51)), (7, .int (iZ 1)), (8, .int (iZ z)), (9, .int (iZ (i : Int))), (13, .int (iZ ru)), (14, .int (iZ mo)), (15, .int (iZ (k : Int))), (16, .int (iZ (P : Int))), (17, .int (iZ go)), (18, .ref ga), (19, .ref gb), (20, .int (iZ gs)), (21, .int (iZ (-1))), (22, .int (iZ nx2)), (23, .int (iZ (j : Int))), (24, .int (iZ (q : Int))), (25, .int (iZ (cst ξ 0 q (ξ (5 + 2 * 0) q)))), (26, .int (iZ (w : Int)))] [.int (iZ dg), .int (iZ gs)] ν [xi X ga n (upF fg q (gn ξ 0 q)), xi X gb n (upF fb q (bits ξ q (bsF ξ 0 q w)))] := by
                            intro dg hdg
                            refine v_iadd K dL_law_1248 ?_
                            refine v_istore [(20, .int (iZ (gs + dg))), (0, .ref (σ.1.1)), (1, .ref (vAd X 0)), (2, .int (iZ (s : Int))), (3, .int (iZ (n : Int))), (4, .ref (vAd X 49)), (5, .ref (vAd X 50)), (6, .ref (vAd X 51)), (7, .int (iZ 1)), (8, .int (iZ z)), (9, .int (iZ (i : Int))), (13, .int (iZ ru)), (14, .int (iZ mo)), (15, .int (iZ (k : Int))), (16, .int (iZ (P : Int))), (17, .int (iZ go)), (18, .ref ga), (19, .ref gb), (21, .int (iZ (-1))), (22, .int (iZ nx2)), (23, .int (iZ (j : Int))), (24, .int (iZ (q : Int))), (25, .int (iZ (cst ξ 0 q (ξ (5 + 2 * 0) q)))), (26, .int (iZ (w : Int)))] K dL_law_1249 (by decide) rfl ?_
                            refine v_iinc 20 [(23, .int (iZ ((j : Int) + 1))), (20, .int (iZ (gs + dg))), (0, .ref (σ.1.1)), (1, .ref (vAd X 0)), (2, .int (iZ (s : Int))), (3, .int (iZ (n : Int))), (4, .ref (vAd X 49)), (5, .ref (vAd X 50)), (6, .ref (vAd X 51)), (7, .int (iZ 1)), (8, .int (iZ z)), (9, .int (iZ (i : Int))), (13, .int (iZ ru)), (14, .int (iZ mo)), (15, .int (iZ (k : Int))), (16, .int (iZ (P : Int))), (17, .int (iZ go)), (18, .ref ga), (19, .ref gb), (21, .int (iZ (-1))), (22, .int (iZ nx2)), (24, .int (iZ (q : Int))), (25, .int (iZ (cst ξ 0 q (ξ (5 + 2 * 0) q)))), (26, .int (iZ (w : Int)))] K dL_law_1251 rfl (by decide) rfl ?_
                            refine v_goto 1043 K dL_law_1254 (by decide) ?_
                            refine v_sub [2, 3, 4, 5, 6, 7, 8, 9, 10, 11, 12, 13, 14, 15, 16, 17, 18, 1, 19, 20, 0] rfl ?_
                            refine v_eq (lv1 := [(0, .ref (σ.1.1)), (1, .ref (vAd X 0)), (2, .int (iZ (s : Int))), (3, .int (iZ (n : Int))), (4, .ref (vAd X 49)), (5, .ref (vAd X 50)), (6, .ref (vAd X 51)), (7, .int (iZ 1)), (8, .int (iZ z)), (9, .int (iZ (i : Int))), (13, .int (iZ ru)), (14, .int (iZ mo)), (15, .int (iZ (k : Int))), (16, .int (iZ (P : Int))), (17, .int (iZ go)), (18, .ref ga), (19, .ref gb), (20, .int (iZ (gs + dg))), (21, .int (iZ (-1))), (22, .int (iZ nx2)), (23, .int (iZ (((j + 1) : Nat) : Int)))]) (st1 := []) (v_c0 (v_c0 (v_c0 (v_c0 (v_c0 (v_c0 (v_c0 (v_c0 (v_c0 (v_c0 (v_c0 (v_c0 (v_c0 (v_c0 (v_c0 (v_c0 (v_c0 (v_c0 (v_c0 (v_c0 (v_cI (by first | rfl | omega) rfl))))))))))))))))))))) rfl ?_
                            exact ih1043 (j + 1) (gs + dg) nx2 (upF fg q (gn ξ 0 q)) (upF fb q (bits ξ q (bsF ξ 0 q w))) (by omega) (by omega) (GK_s (g := gn ξ 0 q) (by omega) (by omega) (by omega) hqd hGK rfl (by rw [hf1, show 3 = w by omega]) (by rw [hdg]) hnx2) (by rw [hdg]; split <;> omega) (by omega)
                          refine v_iload 18 K dL_law_1233 rfl ?_
                          refine v_aload 16 K dL_law_1235 rfl ?_
                          refine v_iload 21 K dL_law_1237 rfl ?_
                          refine v_xald 0 q K rfl rfl (by omega) (by omega) dL_law_1239 ?_
                          refine v_top (b := (gn ξ 0 q)) (by rw [upF_self]) ?_
                          refine v_if_le 1247 K dL_law_1240 (by decide) (by omega) (fun c1240 => ?_) (fun c1240 => ?_)
                          · refine v_iconst K dL_law_1247 ?_
                            refine v_sub [1, 2, 3, 4, 5, 6, 7, 8, 9, 10, 11, 12, 13, 14, 15, 16, 17, 18, 19, 0, 20, 21, 22, 23] rfl ?_
                            exact L1248 0 (by first | (rw [if_pos (by omega)]; done) | (rw [if_neg (by omega)]; done))
                          · refine v_iconst K dL_law_1243 ?_
                            refine v_goto 1248 K dL_law_1244 (by decide) ?_
                            refine v_sub [1, 2, 3, 4, 5, 6, 7, 8, 9, 10, 11, 12, 13, 14, 15, 16, 17, 18, 19, 0, 20, 21, 22, 23] rfl ?_
                            exact L1248 1 (by first | (rw [if_pos (by omega)]; done) | (rw [if_neg (by omega)]; done))
                        refine v_iload 19 K dL_law_1211 rfl ?_
                        refine v_if_ge 1229 K dL_law_1213 (by decide) (by omega) (fun c1213 => ?_) (fun c1213 => ?_)
                        · refine v_iload 19 K dL_law_1229 rfl ?_
                          exact L1231 nx (by first | exact Or.inl ⟨rfl, by omega⟩ | exact Or.inr ⟨rfl, by omega, by omega⟩)
                        · refine v_aload 15 K dL_law_1216 rfl ?_
                          refine v_iload 21 K dL_law_1218 rfl ?_
                          refine v_xald 0 q K rfl rfl (by omega) (by omega) dL_law_1220 ?_
                          refine v_top (b := (gn ξ 0 q)) (by rw [upF_self]) ?_
                          refine v_if_le 1229 K dL_law_1221 (by decide) (by omega) (fun c1221 => ?_) (fun c1221 => ?_)
                          · refine v_iload 19 K dL_law_1229 rfl ?_
                            exact L1231 nx (by first | exact Or.inl ⟨rfl, by omega⟩ | exact Or.inr ⟨rfl, by omega, by omega⟩)
                          · refine v_iload 21 K dL_law_1224 rfl ?_
                            refine v_goto 1231 K dL_law_1226 (by decide) ?_
                            exact L1231 (q : Int) (by first | exact Or.inl ⟨rfl, by omega⟩ | exact Or.inr ⟨rfl, by omega, by omega⟩)
                    · obtain ⟨hby, hwb, hwr⟩ := hf2_ q w hq (by omega)
                      have hc1 := cst_rng hWx (y := 0) (p := q) (by omega) (w : Int)
                      have hc2 := cst_rng hWx (y := 0) (p := q) (by omega) (bsF ξ 0 q w)
                      refine v_iload 22 K dL_law_1094 rfl ?_
                      refine v_aload 4 K dL_law_1096 rfl ?_
                      refine v_iload_n 2 K dL_law_1098 rfl ?_
                      refine v_aload 5 K dL_law_1099 rfl ?_
                      refine v_iload_n 3 K dL_law_1101 rfl ?_
                      refine v_iload 21 K dL_law_1102 rfl ?_
                      refine v_aload 6 K dL_law_1104 rfl ?_
                      refine v_iconst K dL_law_1106 ?_
                      refine v_iload 21 K dL_law_1107 rfl ?_
                      refine v_imul K dL_law_1109 ?_
                      refine v_iload 23 K dL_law_1110 rfl ?_
                      refine v_iadd K dL_law_1112 ?_
                      refine v_iald (c := 51) ((3 * q) + w) K isI_51 (by omega) (by omega) dL_law_1113 ?_
                      refine v_callSir (As := [.ref (vAd X 49), .int (iZ (s : Int)), .ref (vAd X 50), .int (iZ (n : Int)), .int (iZ (q : Int)), .int (iZ (ν 51 ((3 * q) + w)))]) (rest := [.int (iZ (cst ξ 0 q (ξ (5 + 2 * 0) q)))]) K 6 (c_L_costBy X.1.2.1 K.2.2.2.2.2.2 _ _ _ ν s n q (ν 51 ((3 * q) + w)) hRO hPO (by omega) (by omega)) gL_law_L_costBy rfl rfl rfl (by decide +kernel) ⟨(Nat.le_of_ble_eq_true rfl), (Nat.le_of_ble_eq_true rfl)⟩ rfl rfl (Nat.le_of_ble_eq_true rfl) dL_law_1114 ⟨(by show (((kc + 2 * (20 - (2 * (8 - k) + (Int.toNat go)))) + 1) + 1) + 0 ≤ 600258; omega), (by show (((ks + 10 * (20 - (2 * (8 - k) + (Int.toNat go)))) + n) + n) + 0 ≤ 7292426; omega)⟩ ?_
                      refine v_top (b := (cst ξ 0 q (w : Int))) (by rw [hby]) ?_
                      refine v_isub K dL_law_1117 ?_
                      refine v_istore [(27, .int (iZ ((cst ξ 0 q (ξ (5 + 2 * 0) q)) - (cst ξ 0 q (w : Int))))), (0, .ref (σ.1.1)), (1, .ref (vAd X 0)), (2, .int (iZ (s : Int))), (3, .int (iZ (n : Int))), (4, .ref (vAd X 49)), (5, .ref (vAd X 50)), (6, .ref (vAd X 51)), (7, .int (iZ 1)), (8, .int (iZ z)), (9, .int (iZ (i : Int))), (13, .int (iZ ru)), (14, .int (iZ mo)), (15, .int (iZ (k : Int))), (16, .int (iZ (P : Int))), (17, .int (iZ go)), (18, .ref ga), (19, .ref gb), (20, .int (iZ gs)), (21, .int (iZ (-1))), (22, .int (iZ nx)), (23, .int (iZ (j : Int))), (24, .int (iZ (q : Int))), (25, .int (iZ (cst ξ 0 q (ξ (5 + 2 * 0) q)))), (26, .int (iZ (w : Int)))] K dL_law_1118 (by decide) rfl ?_
                      refine v_aload 17 K dL_law_1120 rfl ?_
                      refine v_iload 22 K dL_law_1122 rfl ?_
                      refine v_iload 0 K dL_law_1124 rfl ?_
                      refine v_aload 16 K dL_law_1126 rfl ?_
                      refine v_iload 22 K dL_law_1128 rfl ?_
                      refine v_xald 0 q K rfl rfl (by omega) (by omega) dL_law_1130 ?_
                      refine v_top (b := (cst ξ 0 q (ξ (5 + 2 * 0) q) - cst ξ 0 q (bsF ξ 0 q w))) (by rw [upF_self]) ?_
                      refine v_icmp_le 1147 K dL_law_1131 (by decide) (by omega) (by omega) (fun c1131 => ?_) (fun c1131 => ?_)
                      · refine v_aload 17 K dL_law_1147 rfl ?_
                        refine v_iload 22 K dL_law_1149 rfl ?_
                        refine v_xald 1 q K rfl rfl (by omega) (by omega) dL_law_1151 ?_
                        refine v_top (b := (bits ξ q (bsF ξ 0 q w))) (by rw [upF_self]) ?_
                        refine v_xast (ex' := [xi X ga n (upF fg q (cst ξ 0 q (ξ (5 + 2 * 0) q) - cst ξ 0 q (bsF ξ 0 q w))), xi X gb n (upF (upF fb q (bits ξ q (bsF ξ 0 q w))) q (bits ξ q (bsF ξ 0 q w)))]) 1 q K rfl rfl (by omega) (by omega) dL_law_1152 rfl ?_
                        refine v_ex (ex' := [xi X ga n (upF fg q (cst ξ 0 q (ξ (5 + 2 * 0) q) - cst ξ 0 q (bsF ξ 0 q w))), xi X gb n (upF fb q (bits ξ q (bsF ξ 0 q (w + 1))))]) (by rw [upF_up]; first | (rw [bsF_y (by omega), hwb]; done) | (rw [bsF_n (by omega)]; done)) ?_
                        refine v_aload 16 K dL_law_1153 rfl ?_
                        refine v_iload 22 K dL_law_1155 rfl ?_
                        refine v_iload 0 K dL_law_1157 rfl ?_
                        refine v_aload 16 K dL_law_1159 rfl ?_
                        refine v_iload 22 K dL_law_1161 rfl ?_
                        refine v_xald 0 q K rfl rfl (by omega) (by omega) dL_law_1163 ?_
                        refine v_top (b := (cst ξ 0 q (ξ (5 + 2 * 0) q) - cst ξ 0 q (bsF ξ 0 q w))) (by rw [upF_self]) ?_
                        refine v_icmp_le 1172 K dL_law_1164 (by decide) (by omega) (by omega) (fun c1164 => ?_) (fun c1164 => (by exfalso; omega))
                        refine v_aload 16 K dL_law_1172 rfl ?_
                        refine v_iload 22 K dL_law_1174 rfl ?_
                        refine v_xald 0 q K rfl rfl (by omega) (by omega) dL_law_1176 ?_
                        refine v_top (b := (cst ξ 0 q (ξ (5 + 2 * 0) q) - cst ξ 0 q (bsF ξ 0 q w))) (by rw [upF_self]) ?_
                        refine v_xast (ex' := [xi X ga n (upF (upF fg q (cst ξ 0 q (ξ (5 + 2 * 0) q) - cst ξ 0 q (bsF ξ 0 q w))) q (cst ξ 0 q (ξ (5 + 2 * 0) q) - cst ξ 0 q (bsF ξ 0 q w))), xi X gb n (upF fb q (bits ξ q (bsF ξ 0 q (w + 1))))]) 0 q K rfl rfl (by omega) (by omega) dL_law_1177 rfl ?_
                        refine v_ex (ex' := [xi X ga n (upF fg q (cst ξ 0 q (ξ (5 + 2 * 0) q) - cst ξ 0 q (bsF ξ 0 q (w + 1)))), xi X gb n (upF fb q (bits ξ q (bsF ξ 0 q (w + 1))))]) (by rw [upF_up]; first | (rw [bsF_y (by omega)]; done) | (rw [bsF_n (by omega)]; done)) ?_
                        refine v_iinc 24 [(26, .int (iZ ((w : Int) + 1))), (27, .int (iZ ((cst ξ 0 q (ξ (5 + 2 * 0) q)) - (cst ξ 0 q (w : Int))))), (0, .ref (σ.1.1)), (1, .ref (vAd X 0)), (2, .int (iZ (s : Int))), (3, .int (iZ (n : Int))), (4, .ref (vAd X 49)), (5, .ref (vAd X 50)), (6, .ref (vAd X 51)), (7, .int (iZ 1)), (8, .int (iZ z)), (9, .int (iZ (i : Int))), (13, .int (iZ ru)), (14, .int (iZ mo)), (15, .int (iZ (k : Int))), (16, .int (iZ (P : Int))), (17, .int (iZ go)), (18, .ref ga), (19, .ref gb), (20, .int (iZ gs)), (21, .int (iZ (-1))), (22, .int (iZ nx)), (23, .int (iZ (j : Int))), (24, .int (iZ (q : Int))), (25, .int (iZ (cst ξ 0 q (ξ (5 + 2 * 0) q))))] K dL_law_1178 rfl (by decide) rfl ?_
                        refine v_goto 1088 K dL_law_1181 (by decide) ?_
                        refine v_sub [2, 3, 4, 5, 6, 7, 8, 9, 10, 11, 12, 13, 14, 15, 16, 17, 18, 19, 20, 21, 22, 23, 24, 0] rfl ?_
                        refine v_eq (lv1 := [(0, .ref (σ.1.1)), (1, .ref (vAd X 0)), (2, .int (iZ (s : Int))), (3, .int (iZ (n : Int))), (4, .ref (vAd X 49)), (5, .ref (vAd X 50)), (6, .ref (vAd X 51)), (7, .int (iZ 1)), (8, .int (iZ z)), (9, .int (iZ (i : Int))), (13, .int (iZ ru)), (14, .int (iZ mo)), (15, .int (iZ (k : Int))), (16, .int (iZ (P : Int))), (17, .int (iZ go)), (18, .ref ga), (19, .ref gb), (20, .int (iZ gs)), (21, .int (iZ (-1))), (22, .int (iZ nx)), (23, .int (iZ (j : Int))), (24, .int (iZ (q : Int))), (25, .int (iZ (cst ξ 0 q (ξ (5 + 2 * 0) q)))), (26, .int (iZ (((w + 1) : Nat) : Int)))]) (st1 := []) (v_c0 (v_c0 (v_c0 (v_c0 (v_c0 (v_c0 (v_c0 (v_c0 (v_c0 (v_c0 (v_c0 (v_c0 (v_c0 (v_c0 (v_c0 (v_c0 (v_c0 (v_c0 (v_c0 (v_c0 (v_c0 (v_c0 (v_c0 (v_cI (by first | rfl | omega) rfl)))))))))))))))))))))))) rfl ?_
                        exact ih1088 (w + 1) (by omega) (by omega)
                      · refine v_aload 7 K dL_law_1134 rfl ?_
                        refine v_iconst K dL_law_1136 ?_
                        refine v_iload 22 K dL_law_1137 rfl ?_
                        refine v_imul K dL_law_1139 ?_
                        refine v_iload 24 K dL_law_1140 rfl ?_
                        refine v_iadd K dL_law_1142 ?_
                        refine v_iald (c := 51) ((3 * q) + w) K isI_51 (by omega) (by omega) dL_law_1143 ?_
                        refine v_goto 1152 K dL_law_1144 (by decide) ?_
                        refine v_xast (ex' := [xi X ga n (upF fg q (cst ξ 0 q (ξ (5 + 2 * 0) q) - cst ξ 0 q (bsF ξ 0 q w))), xi X gb n (upF (upF fb q (bits ξ q (bsF ξ 0 q w))) q (ν 51 ((3 * q) + w)))]) 1 q K rfl rfl (by omega) (by omega) dL_law_1152 rfl ?_
                        refine v_ex (ex' := [xi X ga n (upF fg q (cst ξ 0 q (ξ (5 + 2 * 0) q) - cst ξ 0 q (bsF ξ 0 q w))), xi X gb n (upF fb q (bits ξ q (bsF ξ 0 q (w + 1))))]) (by rw [upF_up]; first | (rw [bsF_y (by omega), hwb]; done) | (rw [bsF_n (by omega)]; done)) ?_
                        refine v_aload 16 K dL_law_1153 rfl ?_
                        refine v_iload 22 K dL_law_1155 rfl ?_
                        refine v_iload 0 K dL_law_1157 rfl ?_
                        refine v_aload 16 K dL_law_1159 rfl ?_
                        refine v_iload 22 K dL_law_1161 rfl ?_
                        refine v_xald 0 q K rfl rfl (by omega) (by omega) dL_law_1163 ?_
                        refine v_top (b := (cst ξ 0 q (ξ (5 + 2 * 0) q) - cst ξ 0 q (bsF ξ 0 q w))) (by rw [upF_self]) ?_
                        refine v_icmp_le 1172 K dL_law_1164 (by decide) (by omega) (by omega) (fun c1164 => (by exfalso; omega)) (fun c1164 => ?_)
                        refine v_iload 0 K dL_law_1167 rfl ?_
                        refine v_goto 1177 K dL_law_1169 (by decide) ?_
                        refine v_xast (ex' := [xi X ga n (upF (upF fg q (cst ξ 0 q (ξ (5 + 2 * 0) q) - cst ξ 0 q (bsF ξ 0 q w))) q ((cst ξ 0 q (ξ (5 + 2 * 0) q)) - (cst ξ 0 q (w : Int)))), xi X gb n (upF fb q (bits ξ q (bsF ξ 0 q (w + 1))))]) 0 q K rfl rfl (by omega) (by omega) dL_law_1177 rfl ?_
                        refine v_ex (ex' := [xi X ga n (upF fg q (cst ξ 0 q (ξ (5 + 2 * 0) q) - cst ξ 0 q (bsF ξ 0 q (w + 1)))), xi X gb n (upF fb q (bits ξ q (bsF ξ 0 q (w + 1))))]) (by rw [upF_up]; first | (rw [bsF_y (by omega)]; done) | (rw [bsF_n (by omega)]; done)) ?_
                        refine v_iinc 24 [(26, .int (iZ ((w : Int) + 1))), (27, .int (iZ ((cst ξ 0 q (ξ (5 + 2 * 0) q)) - (cst ξ 0 q (w : Int))))), (0, .ref (σ.1.1)), (1, .ref (vAd X 0)), (2, .int (iZ (s : Int))), (3, .int (iZ (n : Int))), (4, .ref (vAd X 49)), (5, .ref (vAd X 50)), (6, .ref (vAd X 51)), (7, .int (iZ 1)), (8, .int (iZ z)), (9, .int (iZ (i : Int))), (13, .int (iZ ru)), (14, .int (iZ mo)), (15, .int (iZ (k : Int))), (16, .int (iZ (P : Int))), (17, .int (iZ go)), (18, .ref ga), (19, .ref gb), (20, .int (iZ gs)), (21, .int (iZ (-1))), (22, .int (iZ nx)), (23, .int (iZ (j : Int))), (24, .int (iZ (q : Int))), (25, .int (iZ (cst ξ 0 q (ξ (5 + 2 * 0) q))))] K dL_law_1178 rfl (by decide) rfl ?_
                        refine v_goto 1088 K dL_law_1181 (by decide) ?_
                        refine v_sub [2, 3, 4, 5, 6, 7, 8, 9, 10, 11, 12, 13, 14, 15, 16, 17, 18, 19, 20, 21, 22, 23, 24, 0] rfl ?_
                        refine v_eq (lv1 := [(0, .ref (σ.1.1)), (1, .ref (vAd X 0)), (2, .int (iZ (s : Int))), (3, .int (iZ (n : Int))), (4, .ref (vAd X 49)), (5, .ref (vAd X 50)), (6, .ref (vAd X 51)), (7, .int (iZ 1)), (8, .int (iZ z)), (9, .int (iZ (i : Int))), (13, .int (iZ ru)), (14, .int (iZ mo)), (15, .int (iZ (k : Int))), (16, .int (iZ (P : Int))), (17, .int (iZ go)), (18, .ref ga), (19, .ref gb), (20, .int (iZ gs)), (21, .int (iZ (-1))), (22, .int (iZ nx)), (23, .int (iZ (j : Int))), (24, .int (iZ (q : Int))), (25, .int (iZ (cst ξ 0 q (ξ (5 + 2 * 0) q)))), (26, .int (iZ (((w + 1) : Nat) : Int)))]) (st1 := []) (v_c0 (v_c0 (v_c0 (v_c0 (v_c0 (v_c0 (v_c0 (v_c0 (v_c0 (v_c0 (v_c0 (v_c0 (v_c0 (v_c0 (v_c0 (v_c0 (v_c0 (v_c0 (v_c0 (v_c0 (v_c0 (v_c0 (v_c0 (v_cI (by first | rfl | omega) rfl)))))))))))))))))))))))) rfl ?_
                        exact ih1088 (w + 1) (by omega) (by omega)
                refine v_sub [3, 4, 5, 6, 7, 8, 9, 10, 11, 12, 13, 14, 15, 16, 17, 18, 19, 20, 21, 22, 23, 2, 1, 0] rfl ?_
                refine v_eq (lv1 := [(0, .ref (σ.1.1)), (1, .ref (vAd X 0)), (2, .int (iZ (s : Int))), (3, .int (iZ (n : Int))), (4, .ref (vAd X 49)), (5, .ref (vAd X 50)), (6, .ref (vAd X 51)), (7, .int (iZ 1)), (8, .int (iZ z)), (9, .int (iZ (i : Int))), (13, .int (iZ ru)), (14, .int (iZ mo)), (15, .int (iZ (k : Int))), (16, .int (iZ (P : Int))), (17, .int (iZ go)), (18, .ref ga), (19, .ref gb), (20, .int (iZ gs)), (21, .int (iZ (-1))), (22, .int (iZ nx)), (23, .int (iZ (j : Int))), (24, .int (iZ (q : Int))), (25, .int (iZ (cst ξ 0 q (ξ (5 + 2 * 0) q)))), (26, .int (iZ ((0 : Nat) : Int)))]) (st1 := []) (v_c0 (v_c0 (v_c0 (v_c0 (v_c0 (v_c0 (v_c0 (v_c0 (v_c0 (v_c0 (v_c0 (v_c0 (v_c0 (v_c0 (v_c0 (v_c0 (v_c0 (v_c0 (v_c0 (v_c0 (v_c0 (v_c0 (v_c0 (v_cI (by first | rfl | omega) rfl)))))))))))))))))))))))) rfl ?_
                refine v_ex (ex' := [xi X ga n (upF fg q (cst ξ 0 q (ξ (5 + 2 * 0) q) - cst ξ 0 q (bsF ξ 0 q 0))), xi X gb n (upF fb q (bits ξ q (bsF ξ 0 q 0)))]) (by rw [upF_id (f := fg) (by rw [hfq]; show (0 : Int) = cst ξ 0 q (ξ (5 + 2 * 0) q) - cst ξ 0 q (ξ (5 + 2 * 0) q); omega)]) ?_
                exact L1088 (4 - 0 + 1) 0 (by omega) (by omega)
          refine v_sub [6, 7, 8, 9, 10, 11, 12, 13, 14, 15, 16, 17, 18, 19, 20, 5, 4, 3, 2, 1, 0] rfl ?_
          refine v_eq (lv1 := [(0, .ref (σ.1.1)), (1, .ref (vAd X 0)), (2, .int (iZ (s : Int))), (3, .int (iZ (n : Int))), (4, .ref (vAd X 49)), (5, .ref (vAd X 50)), (6, .ref (vAd X 51)), (7, .int (iZ 1)), (8, .int (iZ z)), (9, .int (iZ (i : Int))), (13, .int (iZ ru)), (14, .int (iZ mo)), (15, .int (iZ (k : Int))), (16, .int (iZ (P : Int))), (17, .int (iZ go)), (18, .ref ga), (19, .ref gb), (20, .int (iZ 0)), (21, .int (iZ (-1))), (22, .int (iZ (-1))), (23, .int (iZ ((0 : Nat) : Int)))]) (st1 := []) (v_c0 (v_c0 (v_c0 (v_c0 (v_c0 (v_c0 (v_c0 (v_c0 (v_c0 (v_c0 (v_c0 (v_c0 (v_c0 (v_c0 (v_c0 (v_c0 (v_c0 (v_c0 (v_c0 (v_c0 (v_cI (by first | rfl | omega) rfl))))))))))))))))))))) rfl ?_
          exact L1043 (7 - 0 + 1) 0 0 (-1) (fun _ => 0) (fun _ => 0) (by omega) (by omega) GK_0 (by omega) (by omega)
  refine v_sub [5, 6, 7, 8, 9, 10, 11, 12, 13, 14, 4, 3, 2, 1, 0] rfl ?_
  refine v_eq (lv1 := [(0, .ref (σ.1.1)), (1, .ref (vAd X 0)), (2, .int (iZ (s : Int))), (3, .int (iZ (n : Int))), (4, .ref (vAd X 49)), (5, .ref (vAd X 50)), (6, .ref (vAd X 51)), (7, .int (iZ 1)), (8, .int (iZ z)), (9, .int (iZ (i : Int))), (13, .int (iZ ru)), (14, .int (iZ mo)), (15, .int (iZ ((0 : Nat) : Int))), (16, .int (iZ ((0 : Nat) : Int))), (17, .int (iZ 1))]) (st1 := []) (v_c0 (v_c0 (v_c0 (v_c0 (v_c0 (v_c0 (v_c0 (v_c0 (v_c0 (v_c0 (v_c0 (v_c0 (v_cI (by first | rfl | omega) (v_cI (by first | rfl | omega) (v_c0 rfl))))))))))))))) rfl ?_
  refine v_wid (c2 := (kc + 2 * (20 - (2 * (8 - 0) + (Int.toNat 1))))) (s2 := (ks + 10 * (20 - (2 * (8 - 0) + (Int.toNat 1))))) (by show kc ≤ (kc + 2 * (20 - (2 * (8 - 0) + (Int.toNat 1)))); omega) (by show ks ≤ (ks + 10 * (20 - (2 * (8 - 0) + (Int.toNat 1)))); omega) ?_
  exact L1009 ((2 * (8 - 0) + (Int.toNat 1)) + 1) 0 (-1) z 0 1 μ μ (by omega) (RI_0 hst) rfl (by omega) (Or.inl rfl)
