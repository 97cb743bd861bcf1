theorem dL_law_492 : decode cL_law 492 = .ok (.iload 7, 2) := by decide +kernel
theorem dL_law_494 : decode cL_law 494 = .ok (.aload_n 1, 1) := by decide +kernel
theorem dL_law_495 : decode cL_law 495 = .ok (.iload 11, 2) := by decide +kernel
theorem dL_law_497 : decode cL_law 497 = .ok (.iload 12, 2) := by decide +kernel
theorem dL_law_499 : decode cL_law 499 = .ok (.iconst 3, 1) := by decide +kernel
theorem dL_law_500 : decode cL_law 500 = .ok (.irem, 1) := by decide +kernel
theorem dL_law_501 : decode cL_law 501 = .ok (.ifCond .ne 7, 3) := by decide +kernel
theorem dL_law_508 : decode cL_law 508 = .ok (.iconst 0, 1) := by decide +kernel
theorem dL_law_509 : decode cL_law 509 = .ok (.invokestatic 148, 3) := by decide +kernel
set_option maxRecDepth 20000 in
theorem ggL_law_L_lead : GoodIn wsL_law wsL_lead := goodIn_ca (goodIn_r _ [357, 179, 4, 358, 359, 360, 2, 361, 18, 289, 362, 198, 199, 200, 201, 189, 190, 168, 602, 603, 604, 605, 606, 607, 608, 609, 610, 611, 612, 643, 644, 645, 646, 647, 648] (by decide +kernel) (by decide +kernel)) (goodIn_sub (fun _ h => List.mem_append_left _ (List.mem_append_left _ (List.mem_append_right _ h))) (by decide +kernel))
set_option maxRecDepth 20000 in
theorem gL_law_L_lead : GoodIn wsL_law (va_wsS RL 148 yL_lead wsL_lead) := goodIn_app (goodIn_of _ (by decide +kernel)) ggL_law_L_lead
theorem dL_law_512 : decode cL_law 512 = .ok (.aload 5, 2) := by decide +kernel
theorem dL_law_514 : decode cL_law 514 = .ok (.iconst 4, 1) := by decide +kernel
theorem dL_law_515 : decode cL_law 515 = .ok (.iload 11, 2) := by decide +kernel
theorem dL_law_517 : decode cL_law 517 = .ok (.imul, 1) := by decide +kernel
theorem dL_law_518 : decode cL_law 518 = .ok (.iconst 3, 1) := by decide +kernel
theorem dL_law_519 : decode cL_law 519 = .ok (.iadd, 1) := by decide +kernel
theorem dL_law_520 : decode cL_law 520 = .ok (.iaload, 1) := by decide +kernel
theorem dL_law_521 : decode cL_law 521 = .ok (.if_icmp .ne 7, 3) := by decide +kernel
theorem dL_law_524 : decode cL_law 524 = .ok (.iconst 1, 1) := by decide +kernel
theorem dL_law_525 : decode cL_law 525 = .ok (.goto 4, 3) := by decide +kernel
theorem dL_law_529 : decode cL_law 529 = .ok (.iand, 1) := by decide +kernel
theorem dL_law_530 : decode cL_law 530 = .ok (.istore 7, 2) := by decide +kernel
theorem dL_law_532 : decode cL_law 532 = .ok (.aload 5, 2) := by decide +kernel
theorem dL_law_534 : decode cL_law 534 = .ok (.iconst 4, 1) := by decide +kernel
theorem dL_law_535 : decode cL_law 535 = .ok (.iload 11, 2) := by decide +kernel
theorem dL_law_537 : decode cL_law 537 = .ok (.imul, 1) := by decide +kernel
theorem dL_law_538 : decode cL_law 538 = .ok (.iconst 3, 1) := by decide +kernel
theorem dL_law_539 : decode cL_law 539 = .ok (.iadd, 1) := by decide +kernel
theorem dL_law_540 : decode cL_law 540 = .ok (.iload 12, 2) := by decide +kernel
theorem dL_law_542 : decode cL_law 542 = .ok (.iconst 3, 1) := by decide +kernel
theorem dL_law_543 : decode cL_law 543 = .ok (.irem, 1) := by decide +kernel
theorem dL_law_544 : decode cL_law 544 = .ok (.ifCond .ne 7, 3) := by decide +kernel
theorem dL_law_551 : decode cL_law 551 = .ok (.iconst 0, 1) := by decide +kernel
theorem dL_law_552 : decode cL_law 552 = .ok (.iastore, 1) := by decide +kernel
theorem dL_law_553 : decode cL_law 553 = .ok (.goto 945, 3) := by decide +kernel
theorem dL_law_504 : decode cL_law 504 = .ok (.iconst 1, 1) := by decide +kernel
theorem dL_law_505 : decode cL_law 505 = .ok (.goto 4, 3) := by decide +kernel
theorem dL_law_547 : decode cL_law 547 = .ok (.iconst 1, 1) := by decide +kernel
theorem dL_law_548 : decode cL_law 548 = .ok (.goto 4, 3) := by decide +kernel
set_option maxHeartbeats 8000000 in
set_option maxRecDepth 100000 in
theorem ga_3 {X : VC} {σ : SX} {μ : Mem} (kc : Nat) (ks : Nat) (s : Nat) (n : Nat) (z : Int) (i : Nat) (a : Int) (p : Nat) (x : Int) (hkc : kc ≤ 590000) (hks : ks ≤ 7000000) (hi : i < 14) (hst : LST μ s n z) (hp : p < n) (hx : 0 ≤ x ∧ x < 10000) (K : vK X cL_law 28 RL wsL_law rmL) (SJ : lxJ X.2.2.2.1 X.2.1.1 σ) (L1498 : ∀ (z : Int) (ν : Mem) (hst : LST ν s n z), vW X 28 1498 (kc + 60) (ks + 600) [(0, .ref (σ.1.1)), (1, .ref (vAd X 0)), (2, .int (iZ (s : Int))), (3, .int (iZ (n : Int))), (4, .ref (vAd X 49)), (5, .ref (vAd X 50)), (6, .ref (vAd X 51)), (7, .int (iZ 1)), (8, .int (iZ z)), (9, .int (iZ (i : Int)))] [] ν) : vW X 28 492 kc ks [(0, .ref (σ.1.1)), (1, .ref (vAd X 0)), (2, .int (iZ (s : Int))), (3, .int (iZ (n : Int))), (4, .ref (vAd X 49)), (5, .ref (vAd X 50)), (6, .ref (vAd X 51)), (7, .int (iZ 1)), (8, .int (iZ z)), (9, .int (iZ (i : Int))), (10, .int (iZ a)), (11, .int (iZ (p : Int))), (12, .int (iZ x))] [] μ := by
  obtain ⟨hW, hL, hL1, hR, hz, hz1, hz2⟩ := id hst
  have hs5 := hR.2.2.1
  have hn5 := hR.2.2.2.1
  have hrs := hR.1
  have hrn := hR.2.1
  have hB := hL.PB9 hW
  have h6 := hW.pc6
  have h8 := hW.rc8
  have hrow := hst.row9 hp
  have hpl := hR.2.2.2.2.2 p hp
  have hwc := hpl.2.2.2.2.2.1
  have hch := hpl.2.2.2.2.1
  have hpW := hW.pl (p := p) (by omega)
  refine v_iload 7 K dL_law_492 rfl ?_
  refine v_aload_n 1 K dL_law_494 rfl ?_
  refine v_iload 11 K dL_law_495 rfl ?_
  refine v_iload 12 K dL_law_497 rfl ?_
  refine v_iconst K dL_law_499 ?_
  refine v_irem (by omega) (by omega) K dL_law_500 ?_
  refine v_if_ne 508 K dL_law_501 (by decide) (by omega) (fun c501 => ?_) (fun c501 => ?_)
  · refine v_iconst K dL_law_508 ?_
    refine v_callSWi (As := [.ref (vAd X 0), .int (iZ (p : Int)), .int (iZ 0)]) (rest := [.int (iZ 1)]) K 3 (c_L_lead X.1.2.1 K.2.2.2.2.2.2 _ _ _ μ p 0 (by omega) (by omega) (by omega)) gL_law_L_lead rfl rfl rfl (by decide +kernel) ⟨(Nat.le_of_ble_eq_true rfl), (Nat.le_of_ble_eq_true rfl)⟩ rfl rfl (Nat.le_of_ble_eq_true rfl) dL_law_509 ⟨(by show kc + 0 ≤ 600258; omega), (by show ks + 0 ≤ 7292426; omega)⟩ (fun z509 ν1 q509 => ?_)
    have hz5 := q509.1
    refine v_aload 5 K dL_law_512 rfl ?_
    refine v_iconst K dL_law_514 ?_
    refine v_iload 11 K dL_law_515 rfl ?_
    refine v_imul K dL_law_517 ?_
    refine v_iconst K dL_law_518 ?_
    refine v_iadd K dL_law_519 ?_
    refine v_iald (c := 50) ((4 * p) + 3) K isI_50 (by omega) (by omega) dL_law_520 ?_
    refine v_top (b := (μ (37 + p) 2)) (by rw [q509.2.2, upM_off (by omega), hpl.2.2.2.1]) ?_
    refine v_icmp_ne 528 K dL_law_521 (by decide) (by omega) (by omega) (fun c521 => (by exfalso; omega)) (fun c521 => ?_)
    refine v_iconst K dL_law_524 ?_
    refine v_goto 529 K dL_law_525 (by decide) ?_
    refine v_iand (z := 1) rfl K dL_law_529 ?_
    refine v_istore [(7, .int (iZ 1)), (0, .ref (σ.1.1)), (1, .ref (vAd X 0)), (2, .int (iZ (s : Int))), (3, .int (iZ (n : Int))), (4, .ref (vAd X 49)), (5, .ref (vAd X 50)), (6, .ref (vAd X 51)), (8, .int (iZ z)), (9, .int (iZ (i : Int))), (10, .int (iZ a)), (11, .int (iZ (p : Int))), (12, .int (iZ x))] K dL_law_530 (by decide) rfl ?_
    refine v_aload 6 K dL_law_532 rfl ?_
    refine v_iconst K dL_law_534 ?_
    refine v_iload 11 K dL_law_535 rfl ?_
    refine v_imul K dL_law_537 ?_
    refine v_iconst K dL_law_538 ?_
    refine v_iadd K dL_law_539 ?_
    refine v_iload 12 K dL_law_540 rfl ?_
    refine v_iconst K dL_law_542 ?_
    refine v_irem (by omega) (by omega) K dL_law_543 ?_
    refine v_if_ne 551 K dL_law_544 (by decide) (by omega) (fun c544 => ?_) (fun c544 => (by exfalso; omega))
    refine v_iconst K dL_law_551 ?_
    refine v_iast (c := 50) ((4 * p) + 3) K isI_50 (by omega) (by omega) dL_law_552 ?_
    refine v_goto 1498 K dL_law_553 (by decide) ?_
    refine v_sub [1, 2, 3, 4, 5, 6, 7, 0, 8, 9] rfl ?_
    refine v_wid (c2 := (kc + 60)) (s2 := (ks + 600)) (by show kc ≤ (kc + 60); omega) (by show ks ≤ (ks + 600); omega) ?_
    exact L1498 z (upM ν1 50 ((4 * p) + 3) 0) (by rw [q509.2.2]; exact LST_pl hst hp (Or.inr ⟨rfl, by omega, by omega⟩) (Or.inr ⟨rfl, rfl⟩))
  · refine v_iconst K dL_law_504 ?_
    refine v_goto 509 K dL_law_505 (by decide) ?_
    refine v_callSWi (As := [.ref (vAd X 0), .int (iZ (p : Int)), .int (iZ 1)]) (rest := [.int (iZ 1)]) K 3 (c_L_lead X.1.2.1 K.2.2.2.2.2.2 _ _ _ μ p 1 (by omega) (by omega) (by omega)) gL_law_L_lead rfl rfl rfl (by decide +kernel) ⟨(Nat.le_of_ble_eq_true rfl), (Nat.le_of_ble_eq_true rfl)⟩ rfl rfl (Nat.le_of_ble_eq_true rfl) dL_law_509 ⟨(by show kc + 0 ≤ 600258; omega), (by show ks + 0 ≤ 7292426; omega)⟩ (fun z509 ν1 q509 => ?_)
    have hz5 := q509.1
    refine v_aload 5 K dL_law_512 rfl ?_
    refine v_iconst K dL_law_514 ?_
    refine v_iload 11 K dL_law_515 rfl ?_
    refine v_imul K dL_law_517 ?_
    refine v_iconst K dL_law_518 ?_
    refine v_iadd K dL_law_519 ?_
    refine v_iald (c := 50) ((4 * p) + 3) K isI_50 (by omega) (by omega) dL_law_520 ?_
    refine v_top (b := (μ (37 + p) 2)) (by rw [q509.2.2, upM_off (by omega), hpl.2.2.2.1]) ?_
    refine v_icmp_ne 528 K dL_law_521 (by decide) (by omega) (by omega) (fun c521 => (by exfalso; omega)) (fun c521 => ?_)
    refine v_iconst K dL_law_524 ?_
    refine v_goto 529 K dL_law_525 (by decide) ?_
    refine v_iand (z := 1) rfl K dL_law_529 ?_
    refine v_istore [(7, .int (iZ 1)), (0, .ref (σ.1.1)), (1, .ref (vAd X 0)), (2, .int (iZ (s : Int))), (3, .int (iZ (n : Int))), (4, .ref (vAd X 49)), (5, .ref (vAd X 50)), (6, .ref (vAd X 51)), (8, .int (iZ z)), (9, .int (iZ (i : Int))), (10, .int (iZ a)), (11, .int (iZ (p : Int))), (12, .int (iZ x))] K dL_law_530 (by decide) rfl ?_
    refine v_aload 6 K dL_law_532 rfl ?_
    refine v_iconst K dL_law_534 ?_
    refine v_iload 11 K dL_law_535 rfl ?_
    refine v_imul K dL_law_537 ?_
    refine v_iconst K dL_law_538 ?_
    refine v_iadd K dL_law_539 ?_
    refine v_iload 12 K dL_law_540 rfl ?_
    refine v_iconst K dL_law_542 ?_
    refine v_irem (by omega) (by omega) K dL_law_543 ?_
    refine v_if_ne 551 K dL_law_544 (by decide) (by omega) (fun c544 => (by exfalso; omega)) (fun c544 => ?_)
    refine v_iconst K dL_law_547 ?_
    refine v_goto 552 K dL_law_548 (by decide) ?_
    refine v_iast (c := 50) ((4 * p) + 3) K isI_50 (by omega) (by omega) dL_law_552 ?_
    refine v_goto 1498 K dL_law_553 (by decide) ?_
    refine v_sub [1, 2, 3, 4, 5, 6, 7, 0, 8, 9] rfl ?_
    refine v_wid (c2 := (kc + 60)) (s2 := (ks + 600)) (by show kc ≤ (kc + 60); omega) (by show ks ≤ (ks + 600); omega) ?_
    exact L1498 z (upM ν1 50 ((4 * p) + 3) 1) (by rw [q509.2.2]; exact LST_pl hst hp (Or.inr ⟨rfl, by omega, by omega⟩) (Or.inr ⟨rfl, rfl⟩))
theorem dL_law_562 : decode cL_law 562 = .ok (.iconst 0, 1) := by decide +kernel
theorem dL_law_563 : decode cL_law 563 = .ok (.istore 13, 2) := by decide +kernel
theorem dL_law_565 : decode cL_law 565 = .ok (.iconst 0, 1) := by decide +kernel
theorem dL_law_566 : decode cL_law 566 = .ok (.istore 14, 2) := by decide +kernel
theorem dL_law_568 : decode cL_law 568 = .ok (.iload 14, 2) := by decide +kernel
theorem dL_law_570 : decode cL_law 570 = .ok (.iload_n 2, 1) := by decide +kernel
theorem dL_law_571 : decode cL_law 571 = .ok (.if_icmp .ge 171, 3) := by decide +kernel
theorem dL_law_742 : decode cL_law 742 = .ok (.iload 7, 2) := by decide +kernel
theorem dL_law_744 : decode cL_law 744 = .ok (.aload_n 1, 1) := by decide +kernel
theorem dL_law_745 : decode cL_law 745 = .ok (.invokevirtual 153, 3) := by decide +kernel
set_option maxRecDepth 20000 in
theorem ggL_law_X7_tollByMargins : GoodIn wsL_law wsX7_tollByMargins := goodIn_ca (goodIn_r _ [388, 18, 134, 345, 22, 184, 389, 390, 382, 391, 346, 376, 377, 378, 44, 379, 380, 381, 383, 384, 221, 222, 223, 56, 602, 603, 604, 605, 606, 607, 608, 609, 610, 611, 612, 613, 614, 615, 636, 637, 638, 639, 640, 641, 642] (by decide +kernel) (by decide +kernel)) (goodIn_sub (fun _ h => List.mem_append_left _ (List.mem_append_left _ (List.mem_append_left _ (List.mem_append_left _ (List.mem_append_left _ (List.mem_append_right _ h)))))) (by decide +kernel))
set_option maxRecDepth 20000 in
theorem gL_law_X7_tollByMargins : GoodIn wsL_law (wsV RL 153 RX7 yX7_tollByMargins wsX7_tollByMargins) := goodIn_app (goodIn_of _ (by decide +kernel)) ggL_law_X7_tollByMargins
theorem dL_law_748 : decode cL_law 748 = .ok (.iload 13, 2) := by decide +kernel
theorem dL_law_750 : decode cL_law 750 = .ok (.if_icmp .ne 7, 3) := by decide +kernel
theorem dL_law_753 : decode cL_law 753 = .ok (.iconst 1, 1) := by decide +kernel
theorem dL_law_754 : decode cL_law 754 = .ok (.goto 4, 3) := by decide +kernel
theorem dL_law_758 : decode cL_law 758 = .ok (.iand, 1) := by decide +kernel
theorem dL_law_759 : decode cL_law 759 = .ok (.istore 7, 2) := by decide +kernel
theorem dL_law_761 : decode cL_law 761 = .ok (.goto 737, 3) := by decide +kernel
theorem dL_law_574 : decode cL_law 574 = .ok (.aload 5, 2) := by decide +kernel
theorem dL_law_576 : decode cL_law 576 = .ok (.iload_n 3, 1) := by decide +kernel
theorem dL_law_577 : decode cL_law 577 = .ok (.iload 14, 2) := by decide +kernel
theorem dL_law_579 : decode cL_law 579 = .ok (.invokestatic 94, 3) := by decide +kernel
set_option maxRecDepth 20000 in
theorem ggL_law_L_load : GoodIn wsL_law wsL_load := goodIn_ca (goodIn_r _ [365] (by decide +kernel) (by decide +kernel)) (goodIn_sub (fun _ h => List.mem_append_left _ (List.mem_append_left _ (List.mem_append_left _ (List.mem_append_left _ (List.mem_append_left _ (List.mem_append_right _ h)))))) (by decide +kernel))
set_option maxRecDepth 20000 in
theorem gL_law_L_load : GoodIn wsL_law (va_wsS RL 94 yL_load wsL_load) := goodIn_app (goodIn_of _ (by decide +kernel)) ggL_law_L_load
theorem dL_law_582 : decode cL_law 582 = .ok (.istore 15, 2) := by decide +kernel
theorem dL_law_584 : decode cL_law 584 = .ok (.iload 15, 2) := by decide +kernel
theorem dL_law_674 : decode cL_law 674 = .ok (.istore 16, 2) := by decide +kernel
theorem dL_law_676 : decode cL_law 676 = .ok (.iload 7, 2) := by decide +kernel
theorem dL_law_678 : decode cL_law 678 = .ok (.aload_n 1, 1) := by decide +kernel
theorem dL_law_679 : decode cL_law 679 = .ok (.iload 14, 2) := by decide +kernel
theorem dL_law_681 : decode cL_law 681 = .ok (.invokestatic 151, 3) := by decide +kernel
set_option maxRecDepth 20000 in
theorem ggL_law_L_getMargin : GoodIn wsL_law wsL_getMargin := goodIn_ca (goodIn_ca (goodIn_r _ [371, 179, 4, 372, 373, 374, 2, 375, 18, 345, 22, 184, 185, 186, 187, 188, 189, 190, 134, 376, 377, 378, 44, 379, 380, 381, 382, 383, 384, 221, 222, 223, 56, 602, 603, 604, 605, 606, 607, 608, 609, 610, 611, 612, 613, 614, 615, 636, 637, 638, 639, 640, 641, 642] (by decide +kernel) (by decide +kernel)) (goodIn_sub (fun _ h => List.mem_append_left _ (List.mem_append_left _ (List.mem_append_left _ (List.mem_append_left _ (List.mem_append_left _ (List.mem_append_right _ h)))))) (by decide +kernel))) (goodIn_sub (fun _ h => List.mem_append_left _ (List.mem_append_left _ (List.mem_append_right _ h))) (by decide +kernel))
set_option maxRecDepth 20000 in
theorem gL_law_L_getMargin : GoodIn wsL_law (va_wsS RL 151 yL_getMargin wsL_getMargin) := goodIn_app (goodIn_of _ (by decide +kernel)) ggL_law_L_getMargin
theorem dL_law_684 : decode cL_law 684 = .ok (.iload 16, 2) := by decide +kernel
theorem dL_law_686 : decode cL_law 686 = .ok (.if_icmp .ne 7, 3) := by decide +kernel
theorem dL_law_689 : decode cL_law 689 = .ok (.iconst 1, 1) := by decide +kernel
theorem dL_law_690 : decode cL_law 690 = .ok (.goto 4, 3) := by decide +kernel
theorem dL_law_694 : decode cL_law 694 = .ok (.iand, 1) := by decide +kernel
theorem dL_law_695 : decode cL_law 695 = .ok (.istore 7, 2) := by decide +kernel
theorem dL_law_721 : decode cL_law 721 = .ok (.iastore, 1) := by decide +kernel
theorem dL_law_722 : decode cL_law 722 = .ok (.iload 13, 2) := by decide +kernel
theorem dL_law_724 : decode cL_law 724 = .ok (.aload 4, 2) := by decide +kernel
theorem dL_law_726 : decode cL_law 726 = .ok (.iconst 4, 1) := by decide +kernel
theorem dL_law_727 : decode cL_law 727 = .ok (.iload 14, 2) := by decide +kernel
theorem dL_law_729 : decode cL_law 729 = .ok (.imul, 1) := by decide +kernel
theorem dL_law_730 : decode cL_law 730 = .ok (.iconst 3, 1) := by decide +kernel
theorem dL_law_731 : decode cL_law 731 = .ok (.iadd, 1) := by decide +kernel
theorem dL_law_732 : decode cL_law 732 = .ok (.iaload, 1) := by decide +kernel
theorem dL_law_733 : decode cL_law 733 = .ok (.iadd, 1) := by decide +kernel
theorem dL_law_734 : decode cL_law 734 = .ok (.istore 13, 2) := by decide +kernel
theorem dL_law_736 : decode cL_law 736 = .ok (.iinc 14 1, 3) := by decide +kernel
theorem dL_law_739 : decode cL_law 739 = .ok (.goto (-171), 3) := by decide +kernel
theorem dL_law_697 : decode cL_law 697 = .ok (.aload 4, 2) := by decide +kernel
theorem dL_law_699 : decode cL_law 699 = .ok (.iconst 4, 1) := by decide +kernel
theorem dL_law_700 : decode cL_law 700 = .ok (.iload 14, 2) := by decide +kernel
theorem dL_law_702 : decode cL_law 702 = .ok (.imul, 1) := by decide +kernel
theorem dL_law_703 : decode cL_law 703 = .ok (.iconst 3, 1) := by decide +kernel
theorem dL_law_704 : decode cL_law 704 = .ok (.iadd, 1) := by decide +kernel
theorem dL_law_705 : decode cL_law 705 = .ok (.iload 16, 2) := by decide +kernel
theorem dL_law_707 : decode cL_law 707 = .ok (.sipush 9999, 3) := by decide +kernel
theorem dL_law_710 : decode cL_law 710 = .ok (.if_icmp .le 9, 3) := by decide +kernel
theorem dL_law_719 : decode cL_law 719 = .ok (.iload 16, 2) := by decide +kernel
theorem dL_law_713 : decode cL_law 713 = .ok (.sipush 9999, 3) := by decide +kernel
theorem dL_law_716 : decode cL_law 716 = .ok (.goto 5, 3) := by decide +kernel
theorem dL_law_586 : decode cL_law 586 = .ok (.ifCond .ne 7, 3) := by decide +kernel
theorem dL_law_593 : decode cL_law 593 = .ok (.iload 15, 2) := by decide +kernel
theorem dL_law_595 : decode cL_law 595 = .ok (.iconst 1, 1) := by decide +kernel
theorem dL_law_596 : decode cL_law 596 = .ok (.isub, 1) := by decide +kernel
theorem dL_law_597 : decode cL_law 597 = .ok (.aload 4, 2) := by decide +kernel
theorem dL_law_599 : decode cL_law 599 = .ok (.iconst 4, 1) := by decide +kernel
theorem dL_law_600 : decode cL_law 600 = .ok (.iload 14, 2) := by decide +kernel
theorem dL_law_602 : decode cL_law 602 = .ok (.imul, 1) := by decide +kernel
theorem dL_law_603 : decode cL_law 603 = .ok (.iaload, 1) := by decide +kernel
theorem dL_law_604 : decode cL_law 604 = .ok (.aload 4, 2) := by decide +kernel
theorem dL_law_606 : decode cL_law 606 = .ok (.iconst 4, 1) := by decide +kernel
theorem dL_law_607 : decode cL_law 607 = .ok (.iload 14, 2) := by decide +kernel
theorem dL_law_609 : decode cL_law 609 = .ok (.imul, 1) := by decide +kernel
theorem dL_law_610 : decode cL_law 610 = .ok (.iconst 1, 1) := by decide +kernel
theorem dL_law_611 : decode cL_law 611 = .ok (.iadd, 1) := by decide +kernel
theorem dL_law_612 : decode cL_law 612 = .ok (.iaload, 1) := by decide +kernel
theorem dL_law_613 : decode cL_law 613 = .ok (.aload 4, 2) := by decide +kernel
theorem dL_law_615 : decode cL_law 615 = .ok (.iconst 4, 1) := by decide +kernel
theorem dL_law_616 : decode cL_law 616 = .ok (.iload 14, 2) := by decide +kernel
theorem dL_law_618 : decode cL_law 618 = .ok (.imul, 1) := by decide +kernel
theorem dL_law_619 : decode cL_law 619 = .ok (.iconst 2, 1) := by decide +kernel
theorem dL_law_620 : decode cL_law 620 = .ok (.iadd, 1) := by decide +kernel
theorem dL_law_621 : decode cL_law 621 = .ok (.iaload, 1) := by decide +kernel
theorem dL_law_622 : decode cL_law 622 = .ok (.iload 15, 2) := by decide +kernel
theorem dL_law_624 : decode cL_law 624 = .ok (.invokestatic 98, 3) := by decide +kernel
set_option maxRecDepth 20000 in
theorem ggL_law_L_delay : GoodIn wsL_law wsL_delay := goodIn_r _ [368] (by decide +kernel) (by decide +kernel)
set_option maxRecDepth 20000 in
theorem gL_law_L_delay : GoodIn wsL_law (va_wsS RL 98 yL_delay wsL_delay) := goodIn_app (goodIn_of _ (by decide +kernel)) ggL_law_L_delay
theorem dL_law_627 : decode cL_law 627 = .ok (.aload 4, 2) := by decide +kernel
theorem dL_law_629 : decode cL_law 629 = .ok (.iconst 4, 1) := by decide +kernel
theorem dL_law_630 : decode cL_law 630 = .ok (.iload 14, 2) := by decide +kernel
theorem dL_law_632 : decode cL_law 632 = .ok (.imul, 1) := by decide +kernel
theorem dL_law_633 : decode cL_law 633 = .ok (.iaload, 1) := by decide +kernel
theorem dL_law_634 : decode cL_law 634 = .ok (.aload 4, 2) := by decide +kernel
theorem dL_law_636 : decode cL_law 636 = .ok (.iconst 4, 1) := by decide +kernel
theorem dL_law_637 : decode cL_law 637 = .ok (.iload 14, 2) := by decide +kernel
theorem dL_law_639 : decode cL_law 639 = .ok (.imul, 1) := by decide +kernel
theorem dL_law_640 : decode cL_law 640 = .ok (.iconst 1, 1) := by decide +kernel
theorem dL_law_641 : decode cL_law 641 = .ok (.iadd, 1) := by decide +kernel
theorem dL_law_642 : decode cL_law 642 = .ok (.iaload, 1) := by decide +kernel
theorem dL_law_643 : decode cL_law 643 = .ok (.aload 4, 2) := by decide +kernel
theorem dL_law_645 : decode cL_law 645 = .ok (.iconst 4, 1) := by decide +kernel
theorem dL_law_646 : decode cL_law 646 = .ok (.iload 14, 2) := by decide +kernel
theorem dL_law_648 : decode cL_law 648 = .ok (.imul, 1) := by decide +kernel
theorem dL_law_649 : decode cL_law 649 = .ok (.iconst 2, 1) := by decide +kernel
theorem dL_law_650 : decode cL_law 650 = .ok (.iadd, 1) := by decide +kernel
theorem dL_law_651 : decode cL_law 651 = .ok (.iaload, 1) := by decide +kernel
theorem dL_law_652 : decode cL_law 652 = .ok (.iload 15, 2) := by decide +kernel
theorem dL_law_654 : decode cL_law 654 = .ok (.iconst 1, 1) := by decide +kernel
theorem dL_law_655 : decode cL_law 655 = .ok (.isub, 1) := by decide +kernel
theorem dL_law_656 : decode cL_law 656 = .ok (.invokestatic 98, 3) := by decide +kernel
theorem dL_law_659 : decode cL_law 659 = .ok (.isub, 1) := by decide +kernel
theorem dL_law_660 : decode cL_law 660 = .ok (.imul, 1) := by decide +kernel
theorem dL_law_661 : decode cL_law 661 = .ok (.istore 16, 2) := by decide +kernel
theorem dL_law_663 : decode cL_law 663 = .ok (.iload 16, 2) := by decide +kernel
theorem dL_law_665 : decode cL_law 665 = .ok (.ifCond .ge 7, 3) := by decide +kernel
theorem dL_law_672 : decode cL_law 672 = .ok (.iload 16, 2) := by decide +kernel
theorem dL_law_668 : decode cL_law 668 = .ok (.iconst 0, 1) := by decide +kernel
theorem dL_law_669 : decode cL_law 669 = .ok (.goto 5, 3) := by decide +kernel
theorem dL_law_589 : decode cL_law 589 = .ok (.iconst 0, 1) := by decide +kernel
theorem dL_law_590 : decode cL_law 590 = .ok (.goto 71, 3) := by decide +kernel
set_option maxHeartbeats 8000000 in
set_option maxRecDepth 100000 in
theorem ga_4 {X : VC} {σ : SX} {μ : Mem} (kc : Nat) (ks : Nat) (s : Nat) (n : Nat) (z : Int) (i : Nat) (a : Int) (p : Nat) (x : Int) (hkc : kc ≤ 590000) (hks : ks ≤ 7000000) (hi : i < 14) (hst : LST μ s n z) (hp : p < n) (hx : 0 ≤ x ∧ x < 10000) (K : vK X cL_law 28 RL wsL_law rmL) (SJ : lxJ X.2.2.2.1 X.2.1.1 σ) (L1498 : ∀ (z : Int) (ν : Mem) (hst : LST ν s n z), vW X 28 1498 (kc + 60) (ks + 600) [(0, .ref (σ.1.1)), (1, .ref (vAd X 0)), (2, .int (iZ (s : Int))), (3, .int (iZ (n : Int))), (4, .ref (vAd X 49)), (5, .ref (vAd X 50)), (6, .ref (vAd X 51)), (7, .int (iZ 1)), (8, .int (iZ z)), (9, .int (iZ (i : Int)))] [] ν) : vW X 28 562 kc ks [(0, .ref (σ.1.1)), (1, .ref (vAd X 0)), (2, .int (iZ (s : Int))), (3, .int (iZ (n : Int))), (4, .ref (vAd X 49)), (5, .ref (vAd X 50)), (6, .ref (vAd X 51)), (7, .int (iZ 1)), (8, .int (iZ z)), (9, .int (iZ (i : Int))), (10, .int (iZ a)), (11, .int (iZ (p : Int))), (12, .int (iZ x))] [] μ := by
  obtain ⟨hW, hL, hL1, hR, hz, hz1, hz2⟩ := id hst
  have hs5 := hR.2.2.1
  have hn5 := hR.2.2.2.1
  have hrs := hR.1
  have hrn := hR.2.1
  have hB := hL.PB9 hW
  have h6 := hW.pc6
  have h8 := hW.rc8
  have hrow := hst.row9 hp
  have hpl := hR.2.2.2.2.2 p hp
  have hwc := hpl.2.2.2.2.2.1
  have hch := hpl.2.2.2.2.1
  have hpW := hW.pl (p := p) (by omega)
  refine v_iconst K dL_law_562 ?_
  refine v_istore [(13, .int (iZ 0)), (0, .ref (σ.1.1)), (1, .ref (vAd X 0)), (2, .int (iZ (s : Int))), (3, .int (iZ (n : Int))), (4, .ref (vAd X 49)), (5, .ref (vAd X 50)), (6, .ref (vAd X 51)), (7, .int (iZ 1)), (8, .int (iZ z)), (9, .int (iZ (i : Int))), (10, .int (iZ a)), (11, .int (iZ (p : Int))), (12, .int (iZ x))] K dL_law_563 (by decide) rfl ?_
  refine v_iconst K dL_law_565 ?_
  refine v_istore [(14, .int (iZ 0)), (13, .int (iZ 0)), (0, .ref (σ.1.1)), (1, .ref (vAd X 0)), (2, .int (iZ (s : Int))), (3, .int (iZ (n : Int))), (4, .ref (vAd X 49)), (5, .ref (vAd X 50)), (6, .ref (vAd X 51)), (7, .int (iZ 1)), (8, .int (iZ z)), (9, .int (iZ (i : Int))), (10, .int (iZ a)), (11, .int (iZ (p : Int))), (12, .int (iZ x))] K dL_law_566 (by decide) rfl ?_
  have L568 : ∀ (fuel : Nat) (r : Nat) (ξ : Mem) (hm : 9 - r < fuel) (hr : r ≤ s) (hT : TL μ ξ r), vW X 28 568 kc ks [(0, .ref (σ.1.1)), (1, .ref (vAd X 0)), (2, .int (iZ (s : Int))), (3, .int (iZ (n : Int))), (4, .ref (vAd X 49)), (5, .ref (vAd X 50)), (6, .ref (vAd X 51)), (7, .int (iZ 1)), (8, .int (iZ z)), (9, .int (iZ (i : Int))), (13, .int (iZ (sm r (mtl μ)))), (14, .int (iZ (r : Int)))] [] ξ := by
    intro fuel
    induction fuel with
    | zero => intro r ξ hm; exact absurd hm (Nat.not_lt_zero _)
    | succ fuel ih568 =>
      intro r ξ hm hr hT
      refine v_iload 11 K dL_law_568 rfl ?_
      refine v_iload_n 2 K dL_law_570 rfl ?_
      obtain ⟨w1, w2, w3, w4, w5, w6, w7, w8⟩ := TL_st hst hT
      have oT := hT.1
      refine v_icmp_ge 742 K dL_law_571 (by decide) (by omega) (by omega) (fun c571 => ?_) (fun c571 => ?_)
      · have hsm : sm (rc ξ) (mtl ξ) = sm r (mtl μ) := by rw [show rc ξ = r by omega]; exact sm_congr r (fun q hq => w7 q (by omega))
        have hsr := sm_rng (mtl μ) 9999 r (fun q hq => by have g := mrg_rng2 hW (r := q) (by omega) (BL_rng hW hL.2.1 (r := q) (by omega)); unfold mtl; omega)
        refine v_iload 7 K dL_law_742 rfl ?_
        refine v_aload_n 1 K dL_law_744 rfl ?_
        refine v_callVi (c := 0) (As := []) (rest := [.int (iZ 1)]) K isO_SJ rfl 0 (c_X7_tollByMargins X.1.2.1 K.2.2.2.2.2.2 _ _ _ ξ w1 w2) gL_law_X7_tollByMargins rfl rfl rfl (by decide +kernel) ⟨(Nat.le_of_ble_eq_true rfl), (Nat.le_of_ble_eq_true rfl)⟩ rfl rfl (Nat.le_of_ble_eq_true rfl) dL_law_745 ⟨(by show kc + 0 ≤ 600258; omega), (by show ks + 0 ≤ 7292426; omega)⟩ (fun z745 ν1 q745 => ?_)
        have hz7 := q745.1
        rw [hsm] at hz7
        refine v_iload 10 K dL_law_748 rfl ?_
        refine v_icmp_ne 757 K dL_law_750 (by decide) (by omega) (by omega) (fun c750 => (by exfalso; omega)) (fun c750 => ?_)
        refine v_iconst K dL_law_753 ?_
        refine v_goto 758 K dL_law_754 (by decide) ?_
        refine v_iand (z := 1) rfl K dL_law_758 ?_
        refine v_istore [(7, .int (iZ 1)), (0, .ref (σ.1.1)), (1, .ref (vAd X 0)), (2, .int (iZ (s : Int))), (3, .int (iZ (n : Int))), (4, .ref (vAd X 49)), (5, .ref (vAd X 50)), (6, .ref (vAd X 51)), (8, .int (iZ z)), (9, .int (iZ (i : Int))), (13, .int (iZ (sm r (mtl μ)))), (14, .int (iZ (r : Int)))] K dL_law_759 (by decide) rfl ?_
        refine v_goto 1498 K dL_law_761 (by decide) ?_
        refine v_sub [1, 2, 3, 4, 5, 6, 7, 0, 8, 9] rfl ?_
        refine v_wid (c2 := (kc + 60)) (s2 := (ks + 600)) (by show kc ≤ (kc + 60); omega) (by show ks ≤ (ks + 600); omega) ?_
        exact L1498 z ν1 (LST_tb hst (by rw [show s = r by omega]; exact hT) (by rw [show s = rc ξ by omega]; exact q745.2))
      · have hr0 : r < s := by omega
        obtain ⟨k1, k2, k3, k4⟩ := w8 r hr0
        have hrl := hR.2.2.2.2.1 r hr0
        obtain ⟨g1, g2, g3, g4, -⟩ := id hrl
        have hld := BL_rng hW hL.2.1 (r := r) (by omega)
        have hm := mrg_rng2 hW (r := r) (by omega) hld
        have hd1 := dly_rng hW (r := r) (by omega) (μ (6 + 2 * 0) r)
        have hd2 := dly_rng hW (r := r) (by omega) ((μ (6 + 2 * 0) r) - 1)
        have hpr := mrg_rng hld hd1 hd2
        have hmx : mrg ξ r (ξ (6 + 2 * 0) r) = mrg μ r (μ (6 + 2 * 0) r) := by unfold mrg dly; rw [oT (6 + 2 * 0) (by omega), oT (29 + r) (by omega)]
        refine v_aload 5 K dL_law_574 rfl ?_
        refine v_iload_n 3 K dL_law_576 rfl ?_
        refine v_iload 11 K dL_law_577 rfl ?_
        refine v_callSir (As := [.ref (vAd X 50), .int (iZ (n : Int)), .int (iZ (r : Int))]) (rest := []) K 3 (c_L_load X.1.2.1 K.2.2.2.2.2.2 _ _ _ ξ n r w6 (by omega)) gL_law_L_load rfl rfl rfl (by decide +kernel) ⟨(Nat.le_of_ble_eq_true rfl), (Nat.le_of_ble_eq_true rfl)⟩ rfl rfl (Nat.le_of_ble_eq_true rfl) dL_law_579 ⟨(by show kc + 0 ≤ 600258; omega), (by show ks + 0 ≤ 7292426; omega)⟩ ?_
        refine v_top (b := (μ (6 + 2 * 0) r)) (by rw [k1]) ?_
        refine v_istore [(15, .int (iZ (μ (6 + 2 * 0) r))), (0, .ref (σ.1.1)), (1, .ref (vAd X 0)), (2, .int (iZ (s : Int))), (3, .int (iZ (n : Int))), (4, .ref (vAd X 49)), (5, .ref (vAd X 50)), (6, .ref (vAd X 51)), (7, .int (iZ 1)), (8, .int (iZ z)), (9, .int (iZ (i : Int))), (13, .int (iZ (sm r (mtl μ)))), (14, .int (iZ (r : Int)))] K dL_law_582 (by decide) rfl ?_
        refine v_iload 0 K dL_law_584 rfl ?_
        have L674 : vW X 28 674 kc ks [(0, .ref (σ.1.1)), (1, .ref (vAd X 0)), (2, .int (iZ (s : Int))), (3, .int (iZ (n : Int))), (4, .ref (vAd X 49)), (5, .ref (vAd X 50)), (6, .ref (vAd X 51)), (7, .int (iZ 1)), (8, .int (iZ z)), (9, .int (iZ (i : Int))), (13, .int (iZ (sm r (mtl μ)))), (14, .int (iZ (r : Int)))] [.int (iZ (mrg μ r (μ (6 + 2 * 0) r)))] ξ := by
          refine v_istore [(16, .int (iZ (mrg μ r (μ (6 + 2 * 0) r)))), (0, .ref (σ.1.1)), (1, .ref (vAd X 0)), (2, .int (iZ (s : Int))), (3, .int (iZ (n : Int))), (4, .ref (vAd X 49)), (5, .ref (vAd X 50)), (6, .ref (vAd X 51)), (7, .int (iZ 1)), (8, .int (iZ z)), (9, .int (iZ (i : Int))), (13, .int (iZ (sm r (mtl μ)))), (14, .int (iZ (r : Int)))] K dL_law_674 (by decide) rfl ?_
          refine v_iload 8 K dL_law_676 rfl ?_
          refine v_aload_n 2 K dL_law_678 rfl ?_
          refine v_iload 12 K dL_law_679 rfl ?_
          refine v_callSWir (As := [.ref (vAd X 0), .int (iZ (r : Int))]) (rest := [.int (iZ 1)]) K 2 (c_L_getMargin X.1.2.1 K.2.2.2.2.2.2 _ _ _ ξ r w1 w2 (by omega)) gL_law_L_getMargin rfl rfl rfl (by decide +kernel) ⟨(Nat.le_of_ble_eq_true rfl), (Nat.le_of_ble_eq_true rfl)⟩ rfl rfl (Nat.le_of_ble_eq_true rfl) dL_law_681 ⟨(by show kc + 0 ≤ 600258; omega), (by show ks + 0 ≤ 7292426; omega)⟩ ?_
          refine v_top (b := (mrg μ r (μ (6 + 2 * 0) r))) (by rw [hmx]) ?_
          refine v_iload 0 K dL_law_684 rfl ?_
          refine v_icmp_ne 693 K dL_law_686 (by decide) (by omega) (by omega) (fun c686 => (by exfalso; omega)) (fun c686 => ?_)
          refine v_iconst K dL_law_689 ?_
          refine v_goto 694 K dL_law_690 (by decide) ?_
          refine v_iand (z := 1) rfl K dL_law_694 ?_
          refine v_istore [(7, .int (iZ 1)), (16, .int (iZ (mrg μ r (μ (6 + 2 * 0) r)))), (0, .ref (σ.1.1)), (1, .ref (vAd X 0)), (2, .int (iZ (s : Int))), (3, .int (iZ (n : Int))), (4, .ref (vAd X 49)), (5, .ref (vAd X 50)), (6, .ref (vAd X 51)), (8, .int (iZ z)), (9, .int (iZ (i : Int))), (13, .int (iZ (sm r (mtl μ)))), (14, .int (iZ (r : Int)))] K dL_law_695 (by decide) rfl ?_
          have L721 : vW X 28 721 kc ks [(0, .ref (σ.1.1)), (1, .ref (vAd X 0)), (2, .int (iZ (s : Int))), (3, .int (iZ (n : Int))), (4, .ref (vAd X 49)), (5, .ref (vAd X 50)), (6, .ref (vAd X 51)), (7, .int (iZ 1)), (8, .int (iZ z)), (9, .int (iZ (i : Int))), (13, .int (iZ (sm r (mtl μ)))), (14, .int (iZ (r : Int))), (16, .int (iZ (mrg μ r (μ (6 + 2 * 0) r))))] [.int (iZ (mtl μ r)), .int (iZ ((4 * (r : Int)) + 3)), .ref (vAd X 49)] ξ := by
            refine v_iast (c := 49) ((4 * r) + 3) K isI_49 (by omega) (by omega) dL_law_721 ?_
            obtain ⟨ξ1, eξ1⟩ : ∃ ξ1 : Mem, ξ1 = (upM ξ 49 ((4 * r) + 3) (mtl μ r)) := ⟨_, rfl⟩
            rw [← eξ1]
            refine v_iload 10 K dL_law_722 rfl ?_
            refine v_aload 4 K dL_law_724 rfl ?_
            refine v_iconst K dL_law_726 ?_
            refine v_iload 11 K dL_law_727 rfl ?_
            refine v_imul K dL_law_729 ?_
            refine v_iconst K dL_law_730 ?_
            refine v_iadd K dL_law_731 ?_
            refine v_iald (c := 49) ((4 * r) + 3) K isI_49 (by omega) (by omega) dL_law_732 ?_
            refine v_top (b := (mtl μ r)) (by rw [eξ1, upM_self]) ?_
            refine v_iadd K dL_law_733 ?_
            refine v_istore [(13, .int (iZ ((sm r (mtl μ)) + (mtl μ r)))), (0, .ref (σ.1.1)), (1, .ref (vAd X 0)), (2, .int (iZ (s : Int))), (3, .int (iZ (n : Int))), (4, .ref (vAd X 49)), (5, .ref (vAd X 50)), (6, .ref (vAd X 51)), (7, .int (iZ 1)), (8, .int (iZ z)), (9, .int (iZ (i : Int))), (14, .int (iZ (r : Int))), (16, .int (iZ (mrg μ r (μ (6 + 2 * 0) r))))] K dL_law_734 (by decide) rfl ?_
            refine v_iinc 11 [(14, .int (iZ ((r : Int) + 1))), (13, .int (iZ ((sm r (mtl μ)) + (mtl μ r)))), (0, .ref (σ.1.1)), (1, .ref (vAd X 0)), (2, .int (iZ (s : Int))), (3, .int (iZ (n : Int))), (4, .ref (vAd X 49)), (5, .ref (vAd X 50)), (6, .ref (vAd X 51)), (7, .int (iZ 1)), (8, .int (iZ z)), (9, .int (iZ (i : Int))), (16, .int (iZ (mrg μ r (μ (6 + 2 * 0) r))))] K dL_law_736 rfl (by decide) rfl ?_
            refine v_goto 568 K dL_law_739 (by decide) ?_
            refine v_sub [2, 3, 4, 5, 6, 7, 8, 9, 10, 11, 1, 0] rfl ?_
            refine v_eq (lv1 := [(0, .ref (σ.1.1)), (1, .ref (vAd X 0)), (2, .int (iZ (s : Int))), (3, .int (iZ (n : Int))), (4, .ref (vAd X 49)), (5, .ref (vAd X 50)), (6, .ref (vAd X 51)), (7, .int (iZ 1)), (8, .int (iZ z)), (9, .int (iZ (i : Int))), (13, .int (iZ (sm (r + 1) (mtl μ)))), (14, .int (iZ (((r + 1) : Nat) : Int)))]) (st1 := []) (v_c0 (v_c0 (v_c0 (v_c0 (v_c0 (v_c0 (v_c0 (v_c0 (v_c0 (v_c0 (v_cI rfl (v_cI (by first | rfl | omega) rfl)))))))))))) rfl ?_
            exact ih568 (r + 1) ξ1 (by omega) (by omega) (by rw [eξ1]; exact TL_s hT rfl)
          refine v_aload 6 K dL_law_697 rfl ?_
          refine v_iconst K dL_law_699 ?_
          refine v_iload 12 K dL_law_700 rfl ?_
          refine v_imul K dL_law_702 ?_
          refine v_iconst K dL_law_703 ?_
          refine v_iadd K dL_law_704 ?_
          refine v_iload 1 K dL_law_705 rfl ?_
          refine v_sipush K dL_law_707 (by decide) ?_
          refine v_icmp_le 719 K dL_law_710 (by decide) (by omega) (by decide) (fun c710 => ?_) (fun c710 => ?_)
          · refine v_iload 1 K dL_law_719 rfl ?_
            refine v_sub [2, 3, 4, 5, 6, 7, 8, 0, 9, 10, 11, 12, 1] rfl ?_
            refine v_eq (lv1 := [(0, .ref (σ.1.1)), (1, .ref (vAd X 0)), (2, .int (iZ (s : Int))), (3, .int (iZ (n : Int))), (4, .ref (vAd X 49)), (5, .ref (vAd X 50)), (6, .ref (vAd X 51)), (7, .int (iZ 1)), (8, .int (iZ z)), (9, .int (iZ (i : Int))), (13, .int (iZ (sm r (mtl μ)))), (14, .int (iZ (r : Int))), (16, .int (iZ (mrg μ r (μ (6 + 2 * 0) r))))]) (st1 := [.int (iZ (mtl μ r)), .int (iZ ((4 * (r : Int)) + 3)), .ref (vAd X 49)]) (v_c0 (v_c0 (v_c0 (v_c0 (v_c0 (v_c0 (v_c0 (v_c0 (v_c0 (v_c0 (v_c0 (v_c0 (v_c0 rfl))))))))))))) (v_sI (by unfold mtl; omega) (v_s0 (v_s0 rfl))) ?_
            exact L721 
          · refine v_sipush K dL_law_713 (by decide) ?_
            refine v_goto 721 K dL_law_716 (by decide) ?_
            refine v_sub [2, 3, 4, 5, 6, 7, 8, 0, 9, 10, 11, 12, 1] rfl ?_
            refine v_eq (lv1 := [(0, .ref (σ.1.1)), (1, .ref (vAd X 0)), (2, .int (iZ (s : Int))), (3, .int (iZ (n : Int))), (4, .ref (vAd X 49)), (5, .ref (vAd X 50)), (6, .ref (vAd X 51)), (7, .int (iZ 1)), (8, .int (iZ z)), (9, .int (iZ (i : Int))), (13, .int (iZ (sm r (mtl μ)))), (14, .int (iZ (r : Int))), (16, .int (iZ (mrg μ r (μ (6 + 2 * 0) r))))]) (st1 := [.int (iZ (mtl μ r)), .int (iZ ((4 * (r : Int)) + 3)), .ref (vAd X 49)]) (v_c0 (v_c0 (v_c0 (v_c0 (v_c0 (v_c0 (v_c0 (v_c0 (v_c0 (v_c0 (v_c0 (v_c0 (v_c0 rfl))))))))))))) (v_sI (by unfold mtl; omega) (v_s0 (v_s0 rfl))) ?_
            exact L721 
        refine v_if_ne 593 K dL_law_586 (by decide) (by omega) (fun c586 => ?_) (fun c586 => ?_)
        · refine v_iload 0 K dL_law_593 rfl ?_
          refine v_iconst K dL_law_595 ?_
          refine v_isub K dL_law_596 ?_
          refine v_aload 5 K dL_law_597 rfl ?_
          refine v_iconst K dL_law_599 ?_
          refine v_iload 12 K dL_law_600 rfl ?_
          refine v_imul K dL_law_602 ?_
          refine v_iald (c := 49) (4 * r) K isI_49 (by omega) (by omega) dL_law_603 ?_
          refine v_aload 5 K dL_law_604 rfl ?_
          refine v_iconst K dL_law_606 ?_
          refine v_iload 12 K dL_law_607 rfl ?_
          refine v_imul K dL_law_609 ?_
          refine v_iconst K dL_law_610 ?_
          refine v_iadd K dL_law_611 ?_
          refine v_iald (c := 49) ((4 * r) + 1) K isI_49 (by omega) (by omega) dL_law_612 ?_
          refine v_aload 5 K dL_law_613 rfl ?_
          refine v_iconst K dL_law_615 ?_
          refine v_iload 12 K dL_law_616 rfl ?_
          refine v_imul K dL_law_618 ?_
          refine v_iconst K dL_law_619 ?_
          refine v_iadd K dL_law_620 ?_
          refine v_iald (c := 49) ((4 * r) + 2) K isI_49 (by omega) (by omega) dL_law_621 ?_
          refine v_iload 0 K dL_law_622 rfl ?_
          refine v_callSir (As := [.int (iZ (ξ 49 (4 * r))), .int (iZ (ξ 49 ((4 * r) + 1))), .int (iZ (ξ 49 ((4 * r) + 2))), .int (iZ (μ (6 + 2 * 0) r))]) (rest := [.int (iZ ((μ (6 + 2 * 0) r) - 1))]) K 4 (c_L_delay X.1.2.1 K.2.2.2.2.2.2 _ _ _ ξ (ξ 49 (4 * r)) (ξ 49 ((4 * r) + 1)) (ξ 49 ((4 * r) + 2)) (μ (6 + 2 * 0) r) (by omega) (by omega) (by omega) (by omega)) gL_law_L_delay rfl rfl rfl (by decide +kernel) ⟨(Nat.le_of_ble_eq_true rfl), (Nat.le_of_ble_eq_true rfl)⟩ rfl rfl (Nat.le_of_ble_eq_true rfl) dL_law_624 ⟨(by show kc + 0 ≤ 600258; omega), (by show ks + 0 ≤ 7292426; omega)⟩ ?_
          refine v_top (b := (dly μ r (μ (6 + 2 * 0) r))) (by rw [k2, k3, k4]; exact congrArg iZ (ldq_dly hrl (by omega))) ?_
          refine v_aload 5 K dL_law_627 rfl ?_
          refine v_iconst K dL_law_629 ?_
          refine v_iload 12 K dL_law_630 rfl ?_
          refine v_imul K dL_law_632 ?_
          refine v_iald (c := 49) (4 * r) K isI_49 (by omega) (by omega) dL_law_633 ?_
          refine v_aload 5 K dL_law_634 rfl ?_
          refine v_iconst K dL_law_636 ?_
          refine v_iload 12 K dL_law_637 rfl ?_
          refine v_imul K dL_law_639 ?_
          refine v_iconst K dL_law_640 ?_
          refine v_iadd K dL_law_641 ?_
          refine v_iald (c := 49) ((4 * r) + 1) K isI_49 (by omega) (by omega) dL_law_642 ?_
          refine v_aload 5 K dL_law_643 rfl ?_
          refine v_iconst K dL_law_645 ?_
          refine v_iload 12 K dL_law_646 rfl ?_
          refine v_imul K dL_law_648 ?_
          refine v_iconst K dL_law_649 ?_
          refine v_iadd K dL_law_650 ?_
          refine v_iald (c := 49) ((4 * r) + 2) K isI_49 (by omega) (by omega) dL_law_651 ?_
          refine v_iload 0 K dL_law_652 rfl ?_
          refine v_iconst K dL_law_654 ?_
          refine v_isub K dL_law_655 ?_
          refine v_callSir (As := [.int (iZ (ξ 49 (4 * r))), .int (iZ (ξ 49 ((4 * r) + 1))), .int (iZ (ξ 49 ((4 * r) + 2))), .int (iZ ((μ (6 + 2 * 0) r) - 1))]) (rest := [.int (iZ (dly μ r (μ (6 + 2 * 0) r))), .int (iZ ((μ (6 + 2 * 0) r) - 1))]) K 4 (c_L_delay X.1.2.1 K.2.2.2.2.2.2 _ _ _ ξ (ξ 49 (4 * r)) (ξ 49 ((4 * r) + 1)) (ξ 49 ((4 * r) + 2)) ((μ (6 + 2 * 0) r) - 1) (by omega) (by omega) (by omega) (by omega)) gL_law_L_delay rfl rfl rfl (by decide +kernel) ⟨(Nat.le_of_ble_eq_true rfl), (Nat.le_of_ble_eq_true rfl)⟩ rfl rfl (Nat.le_of_ble_eq_true rfl) dL_law_656 ⟨(by show kc + 0 ≤ 600258; omega), (by show ks + 0 ≤ 7292426; omega)⟩ ?_
          refine v_top (b := (dly μ r ((μ (6 + 2 * 0) r) - 1))) (by rw [k2, k3, k4]; exact congrArg iZ (ldq_dly hrl (by omega))) ?_
          refine v_isub K dL_law_659 ?_
          refine v_imul K dL_law_660 ?_
          refine v_istore [(16, .int (iZ (((μ (6 + 2 * 0) r) - 1) * ((dly μ r (μ (6 + 2 * 0) r)) - (dly μ r ((μ (6 + 2 * 0) r) - 1)))))), (15, .int (iZ (μ (6 + 2 * 0) r))), (0, .ref (σ.1.1)), (1, .ref (vAd X 0)), (2, .int (iZ (s : Int))), (3, .int (iZ (n : Int))), (4, .ref (vAd X 49)), (5, .ref (vAd X 50)), (6, .ref (vAd X 51)), (7, .int (iZ 1)), (8, .int (iZ z)), (9, .int (iZ (i : Int))), (13, .int (iZ (sm r (mtl μ)))), (14, .int (iZ (r : Int)))] K dL_law_661 (by decide) rfl ?_
          refine v_iload 0 K dL_law_663 rfl ?_
          refine v_if_ge 672 K dL_law_665 (by decide) (by omega) (fun c665 => ?_) (fun c665 => ?_)
          · refine v_iload 0 K dL_law_672 rfl ?_
            refine v_sub [2, 3, 4, 5, 6, 7, 8, 9, 10, 11, 12, 13] rfl ?_
            refine v_eq (lv1 := [(0, .ref (σ.1.1)), (1, .ref (vAd X 0)), (2, .int (iZ (s : Int))), (3, .int (iZ (n : Int))), (4, .ref (vAd X 49)), (5, .ref (vAd X 50)), (6, .ref (vAd X 51)), (7, .int (iZ 1)), (8, .int (iZ z)), (9, .int (iZ (i : Int))), (13, .int (iZ (sm r (mtl μ)))), (14, .int (iZ (r : Int)))]) (st1 := [.int (iZ (mrg μ r (μ (6 + 2 * 0) r)))]) (v_c0 (v_c0 (v_c0 (v_c0 (v_c0 (v_c0 (v_c0 (v_c0 (v_c0 (v_c0 (v_c0 (v_c0 rfl)))))))))))) (v_sI (by unfold mrg; first | (rw [if_pos (by omega)]; done) | (rw [if_neg (by omega)]; omega)) rfl) ?_
            exact L674 
          · refine v_iconst K dL_law_668 ?_
            refine v_goto 674 K dL_law_669 (by decide) ?_
            refine v_sub [2, 3, 4, 5, 6, 7, 8, 9, 10, 11, 12, 13] rfl ?_
            refine v_eq (lv1 := [(0, .ref (σ.1.1)), (1, .ref (vAd X 0)), (2, .int (iZ (s : Int))), (3, .int (iZ (n : Int))), (4, .ref (vAd X 49)), (5, .ref (vAd X 50)), (6, .ref (vAd X 51)), (7, .int (iZ 1)), (8, .int (iZ z)), (9, .int (iZ (i : Int))), (13, .int (iZ (sm r (mtl μ)))), (14, .int (iZ (r : Int)))]) (st1 := [.int (iZ (mrg μ r (μ (6 + 2 * 0) r)))]) (v_c0 (v_c0 (v_c0 (v_c0 (v_c0 (v_c0 (v_c0 (v_c0 (v_c0 (v_c0 (v_c0 (v_c0 rfl)))))))))))) (v_sI (by unfold mrg; first | (rw [if_pos (by omega)]; done) | (rw [if_neg (by omega)]; omega)) rfl) ?_
            exact L674 
        · refine v_iconst K dL_law_589 ?_
          refine v_goto 661 K dL_law_590 (by decide) ?_
          refine v_istore [(16, .int (iZ 0)), (15, .int (iZ (μ (6 + 2 * 0) r))), (0, .ref (σ.1.1)), (1, .ref (vAd X 0)), (2, .int (iZ (s : Int))), (3, .int (iZ (n : Int))), (4, .ref (vAd X 49)), (5, .ref (vAd X 50)), (6, .ref (vAd X 51)), (7, .int (iZ 1)), (8, .int (iZ z)), (9, .int (iZ (i : Int))), (13, .int (iZ (sm r (mtl μ)))), (14, .int (iZ (r : Int)))] K dL_law_661 (by decide) rfl ?_
          refine v_iload 0 K dL_law_663 rfl ?_
          refine v_if_ge 672 K dL_law_665 (by decide) (by decide) (fun c665 => ?_) (fun c665 => (by exfalso; omega))
          refine v_iload 0 K dL_law_672 rfl ?_
          refine v_sub [2, 3, 4, 5, 6, 7, 8, 9, 10, 11, 12, 13] rfl ?_
          refine v_eq (lv1 := [(0, .ref (σ.1.1)), (1, .ref (vAd X 0)), (2, .int (iZ (s : Int))), (3, .int (iZ (n : Int))), (4, .ref (vAd X 49)), (5, .ref (vAd X 50)), (6, .ref (vAd X 51)), (7, .int (iZ 1)), (8, .int (iZ z)), (9, .int (iZ (i : Int))), (13, .int (iZ (sm r (mtl μ)))), (14, .int (iZ (r : Int)))]) (st1 := [.int (iZ (mrg μ r (μ (6 + 2 * 0) r)))]) (v_c0 (v_c0 (v_c0 (v_c0 (v_c0 (v_c0 (v_c0 (v_c0 (v_c0 (v_c0 (v_c0 (v_c0 rfl)))))))))))) (v_sI (by unfold mrg; first | (rw [if_pos (by omega)]; done) | (rw [if_neg (by omega)]; omega)) rfl) ?_
          exact L674 
  refine v_sub [2, 3, 4, 5, 6, 7, 8, 9, 10, 11, 1, 0] rfl ?_
  refine v_eq (lv1 := [(0, .ref (σ.1.1)), (1, .ref (vAd X 0)), (2, .int (iZ (s : Int))), (3, .int (iZ (n : Int))), (4, .ref (vAd X 49)), (5, .ref (vAd X 50)), (6, .ref (vAd X 51)), (7, .int (iZ 1)), (8, .int (iZ z)), (9, .int (iZ (i : Int))), (13, .int (iZ (sm 0 (mtl μ)))), (14, .int (iZ ((0 : Nat) : Int)))]) (st1 := []) (v_c0 (v_c0 (v_c0 (v_c0 (v_c0 (v_c0 (v_c0 (v_c0 (v_c0 (v_c0 (v_cI rfl (v_cI (by first | rfl | omega) rfl)))))))))))) rfl ?_
  exact L568 (9 - 0 + 1) 0 μ (by omega) (by omega) TL_0
