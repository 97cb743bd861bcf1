theorem dL_law_770 : decode cL_law 770 = .ok (.aload 5, 2) := by decide +kernel
theorem dL_law_772 : decode cL_law 772 = .ok (.iconst 4, 1) := by decide +kernel
theorem dL_law_773 : decode cL_law 773 = .ok (.iload 11, 2) := by decide +kernel
theorem dL_law_775 : decode cL_law 775 = .ok (.imul, 1) := by decide +kernel
theorem dL_law_776 : decode cL_law 776 = .ok (.iconst 2, 1) := by decide +kernel
theorem dL_law_777 : decode cL_law 777 = .ok (.iadd, 1) := by decide +kernel
theorem dL_law_778 : decode cL_law 778 = .ok (.iaload, 1) := by decide +kernel
theorem dL_law_779 : decode cL_law 779 = .ok (.istore 13, 2) := by decide +kernel
theorem dL_law_781 : decode cL_law 781 = .ok (.aload 4, 2) := by decide +kernel
theorem dL_law_783 : decode cL_law 783 = .ok (.iload_n 2, 1) := by decide +kernel
theorem dL_law_784 : decode cL_law 784 = .ok (.aload 5, 2) := by decide +kernel
theorem dL_law_786 : decode cL_law 786 = .ok (.iload_n 3, 1) := by decide +kernel
theorem dL_law_787 : decode cL_law 787 = .ok (.iload 11, 2) := by decide +kernel
theorem dL_law_789 : decode cL_law 789 = .ok (.invokestatic 102, 3) := by decide +kernel
set_option maxRecDepth 20000 in
theorem ggL_law_L_cost : GoodIn wsL_law wsL_cost := goodIn_ca (goodIn_r _ [394, 363, 364, 101, 365, 366, 367, 368] (by decide +kernel) (by decide +kernel)) (goodIn_sub (fun _ h => List.mem_append_left _ (List.mem_append_left _ (List.mem_append_left _ (List.mem_append_left _ (List.mem_append_left _ (List.mem_append_right _ h)))))) (by decide +kernel))
set_option maxRecDepth 20000 in
theorem gL_law_L_cost : GoodIn wsL_law (va_wsS RL 102 yL_cost wsL_cost) := goodIn_app (goodIn_of _ (by decide +kernel)) ggL_law_L_cost
theorem dL_law_792 : decode cL_law 792 = .ok (.istore 14, 2) := by decide +kernel
theorem dL_law_794 : decode cL_law 794 = .ok (.iload 14, 2) := by decide +kernel
theorem dL_law_796 : decode cL_law 796 = .ok (.istore 15, 2) := by decide +kernel
theorem dL_law_798 : decode cL_law 798 = .ok (.iconst 0, 1) := by decide +kernel
theorem dL_law_799 : decode cL_law 799 = .ok (.istore 16, 2) := by decide +kernel
theorem dL_law_801 : decode cL_law 801 = .ok (.iload 16, 2) := by decide +kernel
theorem dL_law_803 : decode cL_law 803 = .ok (.iconst 3, 1) := by decide +kernel
theorem dL_law_804 : decode cL_law 804 = .ok (.if_icmp .ge 72, 3) := by decide +kernel
theorem dL_law_876 : decode cL_law 876 = .ok (.aload 5, 2) := by decide +kernel
theorem dL_law_878 : decode cL_law 878 = .ok (.iconst 4, 1) := by decide +kernel
theorem dL_law_879 : decode cL_law 879 = .ok (.iload 11, 2) := by decide +kernel
theorem dL_law_881 : decode cL_law 881 = .ok (.imul, 1) := by decide +kernel
theorem dL_law_882 : decode cL_law 882 = .ok (.iconst 3, 1) := by decide +kernel
theorem dL_law_883 : decode cL_law 883 = .ok (.iadd, 1) := by decide +kernel
theorem dL_law_884 : decode cL_law 884 = .ok (.iaload, 1) := by decide +kernel
theorem dL_law_885 : decode cL_law 885 = .ok (.iconst 1, 1) := by decide +kernel
theorem dL_law_886 : decode cL_law 886 = .ok (.if_icmp .ne 7, 3) := by decide +kernel
theorem dL_law_893 : decode cL_law 893 = .ok (.iconst 0, 1) := by decide +kernel
theorem dL_law_894 : decode cL_law 894 = .ok (.istore 16, 2) := by decide +kernel
theorem dL_law_896 : decode cL_law 896 = .ok (.iload 7, 2) := by decide +kernel
theorem dL_law_898 : decode cL_law 898 = .ok (.aload_n 1, 1) := by decide +kernel
theorem dL_law_899 : decode cL_law 899 = .ok (.iload 11, 2) := by decide +kernel
theorem dL_law_901 : decode cL_law 901 = .ok (.aload_n 1, 1) := by decide +kernel
theorem dL_law_902 : decode cL_law 902 = .ok (.iload 11, 2) := by decide +kernel
theorem dL_law_904 : decode cL_law 904 = .ok (.invokestatic 161, 3) := by decide +kernel
set_option maxRecDepth 20000 in
theorem ggL_law_L_bestWay : GoodIn wsL_law wsL_bestWay := goodIn_ca (goodIn_ca (goodIn_ca (goodIn_r _ [400, 179, 401, 4, 5, 402, 403, 404, 2, 405, 406, 407, 22, 276, 18, 198, 199, 200, 201, 189, 190, 168, 408, 409, 410, 17, 411, 206, 46, 299, 207, 208, 209, 210, 139, 211, 174, 42, 212, 175, 213, 214, 215, 48, 216, 217, 62, 218, 219, 220, 221, 222, 44, 223, 56, 412, 325, 326, 327, 328, 602, 603, 604, 605, 606, 607, 608, 613, 614, 615, 609, 610, 611, 612, 643, 644, 645, 646, 647, 648, 636, 637, 638, 639, 640, 641, 642] (by decide +kernel) (by decide +kernel)) (goodIn_sub (fun _ h => List.mem_append_left _ (List.mem_append_left _ (List.mem_append_left _ (List.mem_append_left _ (List.mem_append_left _ (List.mem_append_right _ h)))))) (by decide +kernel))) (goodIn_sub (fun _ h => List.mem_append_right _ h) (by decide +kernel))) (goodIn_sub (fun _ h => List.mem_append_left _ (List.mem_append_left _ (List.mem_append_right _ h))) (by decide +kernel))
set_option maxRecDepth 20000 in
theorem gL_law_L_bestWay : GoodIn wsL_law (va_wsS RL 161 yL_bestWay wsL_bestWay) := goodIn_app (goodIn_of _ (by decide +kernel)) ggL_law_L_bestWay
theorem dL_law_907 : decode cL_law 907 = .ok (.invokestatic 142, 3) := by decide +kernel
theorem dL_law_910 : decode cL_law 910 = .ok (.iload 13, 2) := by decide +kernel
theorem dL_law_912 : decode cL_law 912 = .ok (.if_icmp .ne 31, 3) := by decide +kernel
theorem dL_law_915 : decode cL_law 915 = .ok (.aload_n 1, 1) := by decide +kernel
theorem dL_law_916 : decode cL_law 916 = .ok (.iload 11, 2) := by decide +kernel
theorem dL_law_918 : decode cL_law 918 = .ok (.invokestatic 163, 3) := by decide +kernel
set_option maxRecDepth 20000 in
theorem ggL_law_L_improve : GoodIn wsL_law wsL_improve := goodIn_ca (goodIn_ca (goodIn_ca (goodIn_r _ [415, 179, 280, 4, 5, 416, 417, 418, 2, 419, 286, 287, 18, 22, 198, 199, 200, 201, 189, 190, 168, 420, 421, 422, 17, 423, 46, 424, 206, 425, 426, 427, 428, 429, 430, 203, 204, 205, 207, 208, 209, 210, 139, 211, 174, 42, 212, 175, 213, 214, 215, 48, 216, 217, 62, 218, 219, 220, 221, 222, 44, 223, 56, 431, 409, 410, 411, 299, 412, 325, 326, 327, 328, 408, 329, 302, 303, 304, 602, 603, 604, 605, 606, 607, 608, 609, 610, 611, 612, 643, 644, 645, 646, 647, 648, 613, 614, 615, 636, 637, 638, 639, 640, 641, 642] (by decide +kernel) (by decide +kernel)) (goodIn_sub (fun _ h => List.mem_append_left _ (List.mem_append_right _ h)) (by decide +kernel))) (goodIn_sub (fun _ h => List.mem_append_left _ (List.mem_append_left _ (List.mem_append_right _ h))) (by decide +kernel))) (goodIn_sub (fun _ h => List.mem_append_left _ (List.mem_append_left _ (List.mem_append_left _ (List.mem_append_left _ (List.mem_append_left _ (List.mem_append_right _ h)))))) (by decide +kernel))
set_option maxRecDepth 20000 in
theorem gL_law_L_improve : GoodIn wsL_law (va_wsS RL 163 yL_improve wsL_improve) := goodIn_app (goodIn_of _ (by decide +kernel)) ggL_law_L_improve
theorem dL_law_921 : decode cL_law 921 = .ok (.iload 16, 2) := by decide +kernel
theorem dL_law_923 : decode cL_law 923 = .ok (.ifCond .eq 8, 3) := by decide +kernel
theorem dL_law_931 : decode cL_law 931 = .ok (.iload 15, 2) := by decide +kernel
theorem dL_law_933 : decode cL_law 933 = .ok (.iload 14, 2) := by decide +kernel
theorem dL_law_935 : decode cL_law 935 = .ok (.isub, 1) := by decide +kernel
theorem dL_law_936 : decode cL_law 936 = .ok (.if_icmp .ne 7, 3) := by decide +kernel
theorem dL_law_939 : decode cL_law 939 = .ok (.iconst 1, 1) := by decide +kernel
theorem dL_law_940 : decode cL_law 940 = .ok (.goto 4, 3) := by decide +kernel
theorem dL_law_944 : decode cL_law 944 = .ok (.iand, 1) := by decide +kernel
theorem dL_law_945 : decode cL_law 945 = .ok (.istore 7, 2) := by decide +kernel
theorem dL_law_947 : decode cL_law 947 = .ok (.aload 5, 2) := by decide +kernel
theorem dL_law_949 : decode cL_law 949 = .ok (.iconst 4, 1) := by decide +kernel
theorem dL_law_950 : decode cL_law 950 = .ok (.iload 11, 2) := by decide +kernel
theorem dL_law_952 : decode cL_law 952 = .ok (.imul, 1) := by decide +kernel
theorem dL_law_953 : decode cL_law 953 = .ok (.iconst 2, 1) := by decide +kernel
theorem dL_law_954 : decode cL_law 954 = .ok (.iadd, 1) := by decide +kernel
theorem dL_law_955 : decode cL_law 955 = .ok (.iload 16, 2) := by decide +kernel
theorem dL_law_957 : decode cL_law 957 = .ok (.ifCond .eq 15, 3) := by decide +kernel
theorem dL_law_972 : decode cL_law 972 = .ok (.iload 13, 2) := by decide +kernel
theorem dL_law_974 : decode cL_law 974 = .ok (.iastore, 1) := by decide +kernel
theorem dL_law_975 : decode cL_law 975 = .ok (.goto 523, 3) := by decide +kernel
theorem dL_law_889 : decode cL_law 889 = .ok (.iconst 1, 1) := by decide +kernel
theorem dL_law_890 : decode cL_law 890 = .ok (.goto 4, 3) := by decide +kernel
theorem dL_law_926 : decode cL_law 926 = .ok (.ldc 20, 2) := by decide +kernel
theorem dL_law_928 : decode cL_law 928 = .ok (.goto 8, 3) := by decide +kernel
theorem dL_law_960 : decode cL_law 960 = .ok (.aload 5, 2) := by decide +kernel
theorem dL_law_962 : decode cL_law 962 = .ok (.iconst 4, 1) := by decide +kernel
theorem dL_law_963 : decode cL_law 963 = .ok (.iload 11, 2) := by decide +kernel
theorem dL_law_965 : decode cL_law 965 = .ok (.imul, 1) := by decide +kernel
theorem dL_law_966 : decode cL_law 966 = .ok (.iconst 2, 1) := by decide +kernel
theorem dL_law_967 : decode cL_law 967 = .ok (.iadd, 1) := by decide +kernel
theorem dL_law_968 : decode cL_law 968 = .ok (.iaload, 1) := by decide +kernel
theorem dL_law_969 : decode cL_law 969 = .ok (.goto 5, 3) := by decide +kernel
theorem dL_law_807 : decode cL_law 807 = .ok (.aload 4, 2) := by decide +kernel
theorem dL_law_809 : decode cL_law 809 = .ok (.iload_n 2, 1) := by decide +kernel
theorem dL_law_810 : decode cL_law 810 = .ok (.aload 5, 2) := by decide +kernel
theorem dL_law_812 : decode cL_law 812 = .ok (.iload_n 3, 1) := by decide +kernel
theorem dL_law_813 : decode cL_law 813 = .ok (.iload 11, 2) := by decide +kernel
theorem dL_law_815 : decode cL_law 815 = .ok (.aload 6, 2) := by decide +kernel
theorem dL_law_817 : decode cL_law 817 = .ok (.iconst 3, 1) := by decide +kernel
theorem dL_law_818 : decode cL_law 818 = .ok (.iload 11, 2) := by decide +kernel
theorem dL_law_820 : decode cL_law 820 = .ok (.imul, 1) := by decide +kernel
theorem dL_law_821 : decode cL_law 821 = .ok (.iload 16, 2) := by decide +kernel
theorem dL_law_823 : decode cL_law 823 = .ok (.iadd, 1) := by decide +kernel
theorem dL_law_824 : decode cL_law 824 = .ok (.iaload, 1) := by decide +kernel
theorem dL_law_825 : decode cL_law 825 = .ok (.invokestatic 157, 3) := by decide +kernel
set_option maxRecDepth 20000 in
theorem ggL_law_L_costBy : GoodIn wsL_law wsL_costBy := goodIn_ca (goodIn_r _ [397, 392, 393, 101, 394, 363, 364, 365, 366, 367, 368] (by decide +kernel) (by decide +kernel)) (goodIn_sub (fun _ h => List.mem_append_left _ (List.mem_append_left _ (List.mem_append_left _ (List.mem_append_left _ (List.mem_append_left _ (List.mem_append_right _ h)))))) (by decide +kernel))
set_option maxRecDepth 20000 in
theorem gL_law_L_costBy : GoodIn wsL_law (va_wsS RL 157 yL_costBy wsL_costBy) := goodIn_app (goodIn_of _ (by decide +kernel)) ggL_law_L_costBy
theorem dL_law_828 : decode cL_law 828 = .ok (.istore 17, 2) := by decide +kernel
theorem dL_law_830 : decode cL_law 830 = .ok (.iload 17, 2) := by decide +kernel
theorem dL_law_832 : decode cL_law 832 = .ok (.iload 14, 2) := by decide +kernel
theorem dL_law_834 : decode cL_law 834 = .ok (.if_icmp .ge 16, 3) := by decide +kernel
theorem dL_law_850 : decode cL_law 850 = .ok (.iload 13, 2) := by decide +kernel
theorem dL_law_852 : decode cL_law 852 = .ok (.istore 13, 2) := by decide +kernel
theorem dL_law_854 : decode cL_law 854 = .ok (.iload 17, 2) := by decide +kernel
theorem dL_law_856 : decode cL_law 856 = .ok (.iload 14, 2) := by decide +kernel
theorem dL_law_858 : decode cL_law 858 = .ok (.if_icmp .ge 8, 3) := by decide +kernel
theorem dL_law_866 : decode cL_law 866 = .ok (.iload 14, 2) := by decide +kernel
theorem dL_law_868 : decode cL_law 868 = .ok (.istore 14, 2) := by decide +kernel
theorem dL_law_870 : decode cL_law 870 = .ok (.iinc 16 1, 3) := by decide +kernel
theorem dL_law_873 : decode cL_law 873 = .ok (.goto (-72), 3) := by decide +kernel
theorem dL_law_837 : decode cL_law 837 = .ok (.aload 6, 2) := by decide +kernel
theorem dL_law_839 : decode cL_law 839 = .ok (.iconst 3, 1) := by decide +kernel
theorem dL_law_840 : decode cL_law 840 = .ok (.iload 11, 2) := by decide +kernel
theorem dL_law_842 : decode cL_law 842 = .ok (.imul, 1) := by decide +kernel
theorem dL_law_843 : decode cL_law 843 = .ok (.iload 16, 2) := by decide +kernel
theorem dL_law_845 : decode cL_law 845 = .ok (.iadd, 1) := by decide +kernel
theorem dL_law_846 : decode cL_law 846 = .ok (.iaload, 1) := by decide +kernel
theorem dL_law_847 : decode cL_law 847 = .ok (.goto 5, 3) := by decide +kernel
theorem dL_law_861 : decode cL_law 861 = .ok (.iload 17, 2) := by decide +kernel
theorem dL_law_863 : decode cL_law 863 = .ok (.goto 5, 3) := by decide +kernel
set_option maxHeartbeats 8000000 in
set_option maxRecDepth 100000 in
theorem ga_5 {X : VC} {σ : SX} {μ : Mem} (kc : Nat) (ks : Nat) (s : Nat) (n : Nat) (z : Int) (i : Nat) (a : Int) (p : Nat) (x : Int) (hkc : kc ≤ 590000) (hks : ks ≤ 7000000) (hi : i < 14) (hst : LST μ s n z) (hp : p < n) (hx : 0 ≤ x ∧ x < 10000) (K : vK X cL_law 28 RL wsL_law rmL) (SJ : lxJ X.2.2.2.1 X.2.1.1 σ) (L1498 : ∀ (z : Int) (ν : Mem) (hst : LST ν s n z), vW X 28 1498 (kc + 60) (ks + 600) [(0, .ref (σ.1.1)), (1, .ref (vAd X 0)), (2, .int (iZ (s : Int))), (3, .int (iZ (n : Int))), (4, .ref (vAd X 49)), (5, .ref (vAd X 50)), (6, .ref (vAd X 51)), (7, .int (iZ 1)), (8, .int (iZ z)), (9, .int (iZ (i : Int)))] [] ν) : vW X 28 770 kc ks [(0, .ref (σ.1.1)), (1, .ref (vAd X 0)), (2, .int (iZ (s : Int))), (3, .int (iZ (n : Int))), (4, .ref (vAd X 49)), (5, .ref (vAd X 50)), (6, .ref (vAd X 51)), (7, .int (iZ 1)), (8, .int (iZ z)), (9, .int (iZ (i : Int))), (10, .int (iZ a)), (11, .int (iZ (p : Int))), (12, .int (iZ x))] [] μ := by
  obtain ⟨hW, hL, hL1, hR, hz, hz1, hz2⟩ := id hst
  have hs5 := hR.2.2.1
  have hn5 := hR.2.2.2.1
  have hrs := hR.1
  have hrn := hR.2.1
  have hB := hL.PB9 hW
  have h6 := hW.pc6
  have h8 := hW.rc8
  have hrow := hst.row9 hp
  have hpl := hR.2.2.2.2.2 p hp
  have hwc := hpl.2.2.2.2.2.1
  have hch := hpl.2.2.2.2.1
  have hpW := hW.pl (p := p) (by omega)
  refine v_aload 5 K dL_law_770 rfl ?_
  refine v_iconst K dL_law_772 ?_
  refine v_iload 11 K dL_law_773 rfl ?_
  refine v_imul K dL_law_775 ?_
  refine v_iconst K dL_law_776 ?_
  refine v_iadd K dL_law_777 ?_
  refine v_iald (c := 50) ((4 * p) + 2) K isI_50 (by omega) (by omega) dL_law_778 ?_
  refine v_istore [(13, .int (iZ (μ 50 ((4 * p) + 2)))), (0, .ref (σ.1.1)), (1, .ref (vAd X 0)), (2, .int (iZ (s : Int))), (3, .int (iZ (n : Int))), (4, .ref (vAd X 49)), (5, .ref (vAd X 50)), (6, .ref (vAd X 51)), (7, .int (iZ 1)), (8, .int (iZ z)), (9, .int (iZ (i : Int))), (10, .int (iZ a)), (11, .int (iZ (p : Int))), (12, .int (iZ x))] K dL_law_779 (by decide) rfl ?_
  have hPO := hR.POK9 hW
  have hRO := hR.ROK9 hW
  refine v_aload 5 K dL_law_781 rfl ?_
  refine v_iload_n 3 K dL_law_783 rfl ?_
  refine v_aload 6 K dL_law_784 rfl ?_
  refine v_iload_n 4 K dL_law_786 rfl ?_
  refine v_iload 12 K dL_law_787 rfl ?_
  refine v_callSir (As := [.ref (vAd X 49), .int (iZ (s : Int)), .ref (vAd X 50), .int (iZ (n : Int)), .int (iZ (p : Int))]) (rest := []) K 5 (c_L_cost X.1.2.1 K.2.2.2.2.2.2 _ _ _ μ s n p hRO hPO hp) gL_law_L_cost rfl rfl rfl (by decide +kernel) ⟨(Nat.le_of_ble_eq_true rfl), (Nat.le_of_ble_eq_true rfl)⟩ rfl rfl (Nat.le_of_ble_eq_true rfl) dL_law_789 ⟨(by show kc + 0 ≤ 600258; omega), (by show ks + 0 ≤ 7292426; omega)⟩ ?_
  refine v_top (b := (cst μ 0 p (μ (5 + 2 * 0) p))) (by rw [lcs_own hW hL hR hp]) ?_
  refine v_istore [(14, .int (iZ (cst μ 0 p (μ (5 + 2 * 0) p)))), (13, .int (iZ (μ 50 ((4 * p) + 2)))), (0, .ref (σ.1.1)), (1, .ref (vAd X 0)), (2, .int (iZ (s : Int))), (3, .int (iZ (n : Int))), (4, .ref (vAd X 49)), (5, .ref (vAd X 50)), (6, .ref (vAd X 51)), (7, .int (iZ 1)), (8, .int (iZ z)), (9, .int (iZ (i : Int))), (10, .int (iZ a)), (11, .int (iZ (p : Int))), (12, .int (iZ x))] K dL_law_792 (by decide) rfl ?_
  refine v_iload 0 K dL_law_794 rfl ?_
  refine v_istore [(15, .int (iZ (cst μ 0 p (μ (5 + 2 * 0) p)))), (14, .int (iZ (cst μ 0 p (μ (5 + 2 * 0) p)))), (13, .int (iZ (μ 50 ((4 * p) + 2)))), (0, .ref (σ.1.1)), (1, .ref (vAd X 0)), (2, .int (iZ (s : Int))), (3, .int (iZ (n : Int))), (4, .ref (vAd X 49)), (5, .ref (vAd X 50)), (6, .ref (vAd X 51)), (7, .int (iZ 1)), (8, .int (iZ z)), (9, .int (iZ (i : Int))), (10, .int (iZ a)), (11, .int (iZ (p : Int))), (12, .int (iZ x))] K dL_law_796 (by decide) rfl ?_
  refine v_iconst K dL_law_798 ?_
  refine v_istore [(16, .int (iZ 0)), (15, .int (iZ (cst μ 0 p (μ (5 + 2 * 0) p)))), (14, .int (iZ (cst μ 0 p (μ (5 + 2 * 0) p)))), (13, .int (iZ (μ 50 ((4 * p) + 2)))), (0, .ref (σ.1.1)), (1, .ref (vAd X 0)), (2, .int (iZ (s : Int))), (3, .int (iZ (n : Int))), (4, .ref (vAd X 49)), (5, .ref (vAd X 50)), (6, .ref (vAd X 51)), (7, .int (iZ 1)), (8, .int (iZ z)), (9, .int (iZ (i : Int))), (10, .int (iZ a)), (11, .int (iZ (p : Int))), (12, .int (iZ x))] K dL_law_799 (by decide) rfl ?_
  have L801 : ∀ (fuel : Nat) (w : Nat) (hm : 4 - w < fuel) (hw : w ≤ 3), vW X 28 801 kc ks [(0, .ref (σ.1.1)), (1, .ref (vAd X 0)), (2, .int (iZ (s : Int))), (3, .int (iZ (n : Int))), (4, .ref (vAd X 49)), (5, .ref (vAd X 50)), (6, .ref (vAd X 51)), (7, .int (iZ 1)), (8, .int (iZ z)), (9, .int (iZ (i : Int))), (10, .int (iZ a)), (11, .int (iZ (p : Int))), (12, .int (iZ x)), (13, .int (iZ (bits μ p (bsF μ 0 p w)))), (14, .int (iZ (cst μ 0 p (bsF μ 0 p w)))), (15, .int (iZ (cst μ 0 p (μ (5 + 2 * 0) p)))), (16, .int (iZ (w : Int)))] [] μ := by
    intro fuel
    induction fuel with
    | zero => intro w hm; exact absurd hm (Nat.not_lt_zero _)
    | succ fuel ih801 =>
      intro w hm hw
      refine v_iload 16 K dL_law_801 rfl ?_
      refine v_iconst K dL_law_803 ?_
      refine v_icmp_ge 876 K dL_law_804 (by decide) (by omega) (by decide) (fun c804 => ?_) (fun c804 => ?_)
      · have hb3 : bst μ 0 p = bsF μ 0 p w := by rw [bst_3 hR hp, show w = 3 by omega]
        have hbr : 0 ≤ bst μ 0 p ∧ bst μ 0 p ≤ 2 := by rw [bst_3 hR hp]; exact bs_rng3 hR hp 3 (by omega)
        have hbb := bits_rng hW (p := p) (by omega) (bsF μ 0 p w)
        have hak := ask_led hR hp
        have hled : μ 50 (4 * p + 3) = μ (37 + p) 2 := hpl.2.2.2.1
        have hc1 := cst_rng hW (y := 0) (p := p) (by omega) (μ (5 + 2 * 0) p)
        have hc2 := cst_rng hW (y := 0) (p := p) (by omega) (bsF μ 0 p w)
        refine v_aload 5 K dL_law_876 rfl ?_
        refine v_iconst K dL_law_878 ?_
        refine v_iload 11 K dL_law_879 rfl ?_
        refine v_imul K dL_law_881 ?_
        refine v_iconst K dL_law_882 ?_
        refine v_iadd K dL_law_883 ?_
        refine v_iald (c := 50) ((4 * p) + 3) K isI_50 (by omega) (by omega) dL_law_884 ?_
        refine v_iconst K dL_law_885 ?_
        refine v_icmp_ne 893 K dL_law_886 (by decide) (by omega) (by decide) (fun c886 => ?_) (fun c886 => ?_)
        · refine v_iconst K dL_law_893 ?_
          refine v_istore [(16, .int (iZ 0)), (0, .ref (σ.1.1)), (1, .ref (vAd X 0)), (2, .int (iZ (s : Int))), (3, .int (iZ (n : Int))), (4, .ref (vAd X 49)), (5, .ref (vAd X 50)), (6, .ref (vAd X 51)), (7, .int (iZ 1)), (8, .int (iZ z)), (9, .int (iZ (i : Int))), (10, .int (iZ a)), (11, .int (iZ (p : Int))), (12, .int (iZ x)), (13, .int (iZ (bits μ p (bsF μ 0 p w)))), (14, .int (iZ (cst μ 0 p (bsF μ 0 p w)))), (15, .int (iZ (cst μ 0 p (μ (5 + 2 * 0) p))))] K dL_law_894 (by decide) rfl ?_
          refine v_iload 8 K dL_law_896 rfl ?_
          refine v_aload_n 2 K dL_law_898 rfl ?_
          refine v_iload 12 K dL_law_899 rfl ?_
          refine v_aload_n 2 K dL_law_901 rfl ?_
          refine v_iload 12 K dL_law_902 rfl ?_
          refine v_callSWir (As := [.ref (vAd X 0), .int (iZ (p : Int))]) (rest := [.int (iZ (p : Int)), .ref (vAd X 0), .int (iZ 1)]) K 2 (c_L_bestWay X.1.2.1 K.2.2.2.2.2.2 _ _ _ μ p (by omega) (by omega) (by omega) (by omega)) gL_law_L_bestWay rfl rfl rfl (by decide +kernel) ⟨(Nat.le_of_ble_eq_true rfl), (Nat.le_of_ble_eq_true rfl)⟩ rfl rfl (Nat.le_of_ble_eq_true rfl) dL_law_904 ⟨(by show kc + 0 ≤ 600258; omega), (by show ks + 0 ≤ 7292426; omega)⟩ ?_
          refine v_callSWir (As := [.ref (vAd X 0), .int (iZ (p : Int)), .int (iZ (bst μ 0 p))]) (rest := [.int (iZ 1)]) K 3 (c_L_getWay X.1.2.1 K.2.2.2.2.2.2 _ _ _ μ p (bst μ 0 p) (by omega) (by omega) (by omega)) gL_law_L_getWay rfl rfl rfl (by decide +kernel) ⟨(Nat.le_of_ble_eq_true rfl), (Nat.le_of_ble_eq_true rfl)⟩ rfl rfl (Nat.le_of_ble_eq_true rfl) dL_law_907 ⟨(by show kc + 0 ≤ 600258; omega), (by show ks + 0 ≤ 7292426; omega)⟩ ?_
          refine v_top (b := (bits μ p (bsF μ 0 p w))) (by rw [hb3]) ?_
          refine v_iload 14 K dL_law_910 rfl ?_
          refine v_icmp_ne 943 K dL_law_912 (by decide) (by omega) (by omega) (fun c912 => (by exfalso; omega)) (fun c912 => ?_)
          have hak1 : ask μ 0 p = 1 := by rw [hak]; exact if_pos (by omega)
          refine v_aload_n 2 K dL_law_915 rfl ?_
          refine v_iload 12 K dL_law_916 rfl ?_
          refine v_callSWi (As := [.ref (vAd X 0), .int (iZ (p : Int))]) (rest := [.int (iZ 1)]) K 2 (c_L_improve X.1.2.1 K.2.2.2.2.2.2 _ _ _ μ p (by omega) (by omega) (by omega) (by omega)) gL_law_L_improve rfl rfl rfl (by decide +kernel) ⟨(Nat.le_of_ble_eq_true rfl), (Nat.le_of_ble_eq_true rfl)⟩ rfl rfl (Nat.le_of_ble_eq_true rfl) dL_law_918 ⟨(by show kc + 0 ≤ 600258; omega), (by show ks + 0 ≤ 7292426; omega)⟩ (fun z918 ν1 q918 => ?_)
          obtain ⟨hz9, hT⟩ := q918
          have hgn : gn μ 0 p = cst μ 0 p (μ (5 + 2 * 0) p) - cst μ 0 p (bsF μ 0 p w) := by unfold gn; rw [if_pos hak1, hb3]
          refine v_iload 0 K dL_law_921 rfl ?_
          refine v_if_eq 931 K dL_law_923 (by decide) (by decide) (fun c923 => ?_) (fun c923 => (by exfalso; omega))
          refine v_iload 16 K dL_law_931 rfl ?_
          refine v_iload 15 K dL_law_933 rfl ?_
          refine v_isub K dL_law_935 ?_
          refine v_icmp_ne 943 K dL_law_936 (by decide) (by omega) (by omega) (fun c936 => (by exfalso; omega)) (fun c936 => ?_)
          refine v_iconst K dL_law_939 ?_
          refine v_goto 944 K dL_law_940 (by decide) ?_
          refine v_iand (z := 1) rfl K dL_law_944 ?_
          refine v_istore [(7, .int (iZ 1)), (16, .int (iZ 0)), (0, .ref (σ.1.1)), (1, .ref (vAd X 0)), (2, .int (iZ (s : Int))), (3, .int (iZ (n : Int))), (4, .ref (vAd X 49)), (5, .ref (vAd X 50)), (6, .ref (vAd X 51)), (8, .int (iZ z)), (9, .int (iZ (i : Int))), (10, .int (iZ a)), (11, .int (iZ (p : Int))), (12, .int (iZ x)), (13, .int (iZ (bits μ p (bsF μ 0 p w)))), (14, .int (iZ (cst μ 0 p (bsF μ 0 p w)))), (15, .int (iZ (cst μ 0 p (μ (5 + 2 * 0) p))))] K dL_law_945 (by decide) rfl ?_
          refine v_aload 7 K dL_law_947 rfl ?_
          refine v_iconst K dL_law_949 ?_
          refine v_iload 12 K dL_law_950 rfl ?_
          refine v_imul K dL_law_952 ?_
          refine v_iconst K dL_law_953 ?_
          refine v_iadd K dL_law_954 ?_
          refine v_iload 1 K dL_law_955 rfl ?_
          refine v_if_eq 972 K dL_law_957 (by decide) (by decide) (fun c957 => ?_) (fun c957 => (by exfalso; omega))
          refine v_iload 14 K dL_law_972 rfl ?_
          refine v_iast (c := 50) ((4 * p) + 2) K isI_50 (by omega) (by omega) dL_law_974 ?_
          refine v_goto 1498 K dL_law_975 (by decide) ?_
          refine v_sub [2, 3, 4, 5, 6, 7, 8, 0, 9, 10] rfl ?_
          refine v_wid (c2 := (kc + 60)) (s2 := (ks + 600)) (by show kc ≤ (kc + 60); omega) (by show ks ≤ (ks + 600); omega) ?_
          exact L1498 z (upM ν1 50 ((4 * p) + 2) (bits μ p (bsF μ 0 p w))) (by first | (rw [upM_id rfl]; exact hst) | exact LST_take hst hp hbr hT (by rw [hb3]))
        · refine v_iconst K dL_law_889 ?_
          refine v_goto 894 K dL_law_890 (by decide) ?_
          refine v_istore [(16, .int (iZ 1)), (0, .ref (σ.1.1)), (1, .ref (vAd X 0)), (2, .int (iZ (s : Int))), (3, .int (iZ (n : Int))), (4, .ref (vAd X 49)), (5, .ref (vAd X 50)), (6, .ref (vAd X 51)), (7, .int (iZ 1)), (8, .int (iZ z)), (9, .int (iZ (i : Int))), (10, .int (iZ a)), (11, .int (iZ (p : Int))), (12, .int (iZ x)), (13, .int (iZ (bits μ p (bsF μ 0 p w)))), (14, .int (iZ (cst μ 0 p (bsF μ 0 p w)))), (15, .int (iZ (cst μ 0 p (μ (5 + 2 * 0) p))))] K dL_law_894 (by decide) rfl ?_
          refine v_iload 8 K dL_law_896 rfl ?_
          refine v_aload_n 2 K dL_law_898 rfl ?_
          refine v_iload 12 K dL_law_899 rfl ?_
          refine v_aload_n 2 K dL_law_901 rfl ?_
          refine v_iload 12 K dL_law_902 rfl ?_
          refine v_callSWir (As := [.ref (vAd X 0), .int (iZ (p : Int))]) (rest := [.int (iZ (p : Int)), .ref (vAd X 0), .int (iZ 1)]) K 2 (c_L_bestWay X.1.2.1 K.2.2.2.2.2.2 _ _ _ μ p (by omega) (by omega) (by omega) (by omega)) gL_law_L_bestWay rfl rfl rfl (by decide +kernel) ⟨(Nat.le_of_ble_eq_true rfl), (Nat.le_of_ble_eq_true rfl)⟩ rfl rfl (Nat.le_of_ble_eq_true rfl) dL_law_904 ⟨(by show kc + 0 ≤ 600258; omega), (by show ks + 0 ≤ 7292426; omega)⟩ ?_
          refine v_callSWir (As := [.ref (vAd X 0), .int (iZ (p : Int)), .int (iZ (bst μ 0 p))]) (rest := [.int (iZ 1)]) K 3 (c_L_getWay X.1.2.1 K.2.2.2.2.2.2 _ _ _ μ p (bst μ 0 p) (by omega) (by omega) (by omega)) gL_law_L_getWay rfl rfl rfl (by decide +kernel) ⟨(Nat.le_of_ble_eq_true rfl), (Nat.le_of_ble_eq_true rfl)⟩ rfl rfl (Nat.le_of_ble_eq_true rfl) dL_law_907 ⟨(by show kc + 0 ≤ 600258; omega), (by show ks + 0 ≤ 7292426; omega)⟩ ?_
          refine v_top (b := (bits μ p (bsF μ 0 p w))) (by rw [hb3]) ?_
          refine v_iload 14 K dL_law_910 rfl ?_
          refine v_icmp_ne 943 K dL_law_912 (by decide) (by omega) (by omega) (fun c912 => (by exfalso; omega)) (fun c912 => ?_)
          have hak0 : ask μ 0 p = 0 := by rw [hak]; exact if_neg (by omega)
          refine v_aload_n 2 K dL_law_915 rfl ?_
          refine v_iload 12 K dL_law_916 rfl ?_
          refine v_callSWir (As := [.ref (vAd X 0), .int (iZ (p : Int))]) (rest := [.int (iZ 1)]) K 2 (c_L_improveT X.1.2.1 K.2.2.2.2.2.2 _ _ _ μ p (by omega) (by omega) (by omega) (by omega)) gL_law_L_improve rfl rfl rfl (by decide +kernel) ⟨(Nat.le_of_ble_eq_true rfl), (Nat.le_of_ble_eq_true rfl)⟩ rfl rfl (Nat.le_of_ble_eq_true rfl) dL_law_918 ⟨(by show kc + 1 ≤ 600258; omega), (by show ks + 6 ≤ 7292426; omega)⟩ ?_
          refine v_iload 0 K dL_law_921 rfl ?_
          refine v_if_eq 931 K dL_law_923 (by decide) (by decide) (fun c923 => (by exfalso; omega)) (fun c923 => ?_)
          refine v_ldc (v := (-900002)) (n := (-900002)) K (List.mem_append_left _ (List.mem_append_left _ (List.mem_append_left _ (List.mem_append_left _ (List.mem_append_left _ (List.mem_append_left _ (List.mem_append_left _ (List.mem_append_left _ (List.mem_append_left _ (List.mem_append_left _ (List.mem_append_left _ (List.mem_append_left _ (List.mem_append_left _ (List.mem_append_left _ (List.mem_append_left _ (List.mem_append_left _ (List.mem_append_left _ (List.mem_of_getElem? (i := 5) rfl)))))))))))))))))) dL_law_926 (by decide) ?_
          refine v_goto 936 K dL_law_928 (by decide) ?_
          refine v_icmp_ne 943 K dL_law_936 (by decide) (by decide) (by decide) (fun c936 => (by exfalso; omega)) (fun c936 => ?_)
          refine v_iconst K dL_law_939 ?_
          refine v_goto 944 K dL_law_940 (by decide) ?_
          refine v_iand (z := 1) rfl K dL_law_944 ?_
          refine v_istore [(7, .int (iZ 1)), (16, .int (iZ 1)), (0, .ref (σ.1.1)), (1, .ref (vAd X 0)), (2, .int (iZ (s : Int))), (3, .int (iZ (n : Int))), (4, .ref (vAd X 49)), (5, .ref (vAd X 50)), (6, .ref (vAd X 51)), (8, .int (iZ z)), (9, .int (iZ (i : Int))), (10, .int (iZ a)), (11, .int (iZ (p : Int))), (12, .int (iZ x)), (13, .int (iZ (bits μ p (bsF μ 0 p w)))), (14, .int (iZ (cst μ 0 p (bsF μ 0 p w)))), (15, .int (iZ (cst μ 0 p (μ (5 + 2 * 0) p))))] K dL_law_945 (by decide) rfl ?_
          refine v_aload 7 K dL_law_947 rfl ?_
          refine v_iconst K dL_law_949 ?_
          refine v_iload 12 K dL_law_950 rfl ?_
          refine v_imul K dL_law_952 ?_
          refine v_iconst K dL_law_953 ?_
          refine v_iadd K dL_law_954 ?_
          refine v_iload 1 K dL_law_955 rfl ?_
          refine v_if_eq 972 K dL_law_957 (by decide) (by decide) (fun c957 => (by exfalso; omega)) (fun c957 => ?_)
          refine v_aload 7 K dL_law_960 rfl ?_
          refine v_iconst K dL_law_962 ?_
          refine v_iload 12 K dL_law_963 rfl ?_
          refine v_imul K dL_law_965 ?_
          refine v_iconst K dL_law_966 ?_
          refine v_iadd K dL_law_967 ?_
          refine v_iald (c := 50) ((4 * p) + 2) K isI_50 (by omega) (by omega) dL_law_968 ?_
          refine v_goto 974 K dL_law_969 (by decide) ?_
          refine v_iast (c := 50) ((4 * p) + 2) K isI_50 (by omega) (by omega) dL_law_974 ?_
          refine v_goto 1498 K dL_law_975 (by decide) ?_
          refine v_sub [2, 3, 4, 5, 6, 7, 8, 0, 9, 10] rfl ?_
          refine v_wid (c2 := (kc + 60)) (s2 := (ks + 600)) (by show (kc + 1) ≤ (kc + 60); omega) (by show (ks + 6) ≤ (ks + 600); omega) ?_
          exact L1498 z (upM μ 50 ((4 * p) + 2) (μ 50 ((4 * p) + 2))) (by first | (rw [upM_id rfl]; exact hst) | exact LST_take hst hp hbr hT (by rw [hb3]))
      · have hwy := hst.way9 hp (show w < 3 by omega)
        have hc1 := cst_rng hW (y := 0) (p := p) (by omega) (w : Int)
        have hc2 := cst_rng hW (y := 0) (p := p) (by omega) (bsF μ 0 p w)
        have hPO := hR.POK9 hW
        have hRO := hR.ROK9 hW
        refine v_aload 4 K dL_law_807 rfl ?_
        refine v_iload_n 2 K dL_law_809 rfl ?_
        refine v_aload 5 K dL_law_810 rfl ?_
        refine v_iload_n 3 K dL_law_812 rfl ?_
        refine v_iload 11 K dL_law_813 rfl ?_
        refine v_aload 6 K dL_law_815 rfl ?_
        refine v_iconst K dL_law_817 ?_
        refine v_iload 11 K dL_law_818 rfl ?_
        refine v_imul K dL_law_820 ?_
        refine v_iload 16 K dL_law_821 rfl ?_
        refine v_iadd K dL_law_823 ?_
        refine v_iald (c := 51) ((3 * p) + w) K isI_51 (by omega) (by omega) dL_law_824 ?_
        refine v_callSir (As := [.ref (vAd X 49), .int (iZ (s : Int)), .ref (vAd X 50), .int (iZ (n : Int)), .int (iZ (p : Int)), .int (iZ (μ 51 ((3 * p) + w)))]) (rest := []) K 6 (c_L_costBy X.1.2.1 K.2.2.2.2.2.2 _ _ _ μ s n p (μ 51 ((3 * p) + w)) hRO hPO hp (by omega)) gL_law_L_costBy rfl rfl rfl (by decide +kernel) ⟨(Nat.le_of_ble_eq_true rfl), (Nat.le_of_ble_eq_true rfl)⟩ rfl rfl (Nat.le_of_ble_eq_true rfl) dL_law_825 ⟨(by show kc + 0 ≤ 600258; omega), (by show ks + 0 ≤ 7292426; omega)⟩ ?_
        refine v_top (b := (cst μ 0 p (w : Int))) (by rw [lcs_by hW hL hR hp (by omega)]) ?_
        refine v_istore [(17, .int (iZ (cst μ 0 p (w : Int)))), (0, .ref (σ.1.1)), (1, .ref (vAd X 0)), (2, .int (iZ (s : Int))), (3, .int (iZ (n : Int))), (4, .ref (vAd X 49)), (5, .ref (vAd X 50)), (6, .ref (vAd X 51)), (7, .int (iZ 1)), (8, .int (iZ z)), (9, .int (iZ (i : Int))), (10, .int (iZ a)), (11, .int (iZ (p : Int))), (12, .int (iZ x)), (13, .int (iZ (bits μ p (bsF μ 0 p w)))), (14, .int (iZ (cst μ 0 p (bsF μ 0 p w)))), (15, .int (iZ (cst μ 0 p (μ (5 + 2 * 0) p)))), (16, .int (iZ (w : Int)))] K dL_law_828 (by decide) rfl ?_
        refine v_iload 0 K dL_law_830 rfl ?_
        refine v_iload 15 K dL_law_832 rfl ?_
        refine v_icmp_ge 850 K dL_law_834 (by decide) (by omega) (by omega) (fun c834 => ?_) (fun c834 => ?_)
        · refine v_iload 14 K dL_law_850 rfl ?_
          refine v_istore [(13, .int (iZ (bits μ p (bsF μ 0 p w)))), (17, .int (iZ (cst μ 0 p (w : Int)))), (0, .ref (σ.1.1)), (1, .ref (vAd X 0)), (2, .int (iZ (s : Int))), (3, .int (iZ (n : Int))), (4, .ref (vAd X 49)), (5, .ref (vAd X 50)), (6, .ref (vAd X 51)), (7, .int (iZ 1)), (8, .int (iZ z)), (9, .int (iZ (i : Int))), (10, .int (iZ a)), (11, .int (iZ (p : Int))), (12, .int (iZ x)), (14, .int (iZ (cst μ 0 p (bsF μ 0 p w)))), (15, .int (iZ (cst μ 0 p (μ (5 + 2 * 0) p)))), (16, .int (iZ (w : Int)))] K dL_law_852 (by decide) rfl ?_
          refine v_iload 1 K dL_law_854 rfl ?_
          refine v_iload 15 K dL_law_856 rfl ?_
          refine v_icmp_ge 866 K dL_law_858 (by decide) (by omega) (by omega) (fun c858 => ?_) (fun c858 => (by exfalso; omega))
          refine v_iload 15 K dL_law_866 rfl ?_
          refine v_istore [(14, .int (iZ (cst μ 0 p (bsF μ 0 p w)))), (13, .int (iZ (bits μ p (bsF μ 0 p w)))), (17, .int (iZ (cst μ 0 p (w : Int)))), (0, .ref (σ.1.1)), (1, .ref (vAd X 0)), (2, .int (iZ (s : Int))), (3, .int (iZ (n : Int))), (4, .ref (vAd X 49)), (5, .ref (vAd X 50)), (6, .ref (vAd X 51)), (7, .int (iZ 1)), (8, .int (iZ z)), (9, .int (iZ (i : Int))), (10, .int (iZ a)), (11, .int (iZ (p : Int))), (12, .int (iZ x)), (15, .int (iZ (cst μ 0 p (μ (5 + 2 * 0) p)))), (16, .int (iZ (w : Int)))] K dL_law_868 (by decide) rfl ?_
          refine v_iinc 17 [(16, .int (iZ ((w : Int) + 1))), (14, .int (iZ (cst μ 0 p (bsF μ 0 p w)))), (13, .int (iZ (bits μ p (bsF μ 0 p w)))), (17, .int (iZ (cst μ 0 p (w : Int)))), (0, .ref (σ.1.1)), (1, .ref (vAd X 0)), (2, .int (iZ (s : Int))), (3, .int (iZ (n : Int))), (4, .ref (vAd X 49)), (5, .ref (vAd X 50)), (6, .ref (vAd X 51)), (7, .int (iZ 1)), (8, .int (iZ z)), (9, .int (iZ (i : Int))), (10, .int (iZ a)), (11, .int (iZ (p : Int))), (12, .int (iZ x)), (15, .int (iZ (cst μ 0 p (μ (5 + 2 * 0) p))))] K dL_law_870 rfl (by decide) rfl ?_
          refine v_goto 801 K dL_law_873 (by decide) ?_
          refine v_sub [4, 5, 6, 7, 8, 9, 10, 11, 12, 13, 14, 15, 16, 2, 1, 17, 0] rfl ?_
          refine v_eq (lv1 := [(0, .ref (σ.1.1)), (1, .ref (vAd X 0)), (2, .int (iZ (s : Int))), (3, .int (iZ (n : Int))), (4, .ref (vAd X 49)), (5, .ref (vAd X 50)), (6, .ref (vAd X 51)), (7, .int (iZ 1)), (8, .int (iZ z)), (9, .int (iZ (i : Int))), (10, .int (iZ a)), (11, .int (iZ (p : Int))), (12, .int (iZ x)), (13, .int (iZ (bits μ p (bsF μ 0 p (w + 1))))), (14, .int (iZ (cst μ 0 p (bsF μ 0 p (w + 1))))), (15, .int (iZ (cst μ 0 p (μ (5 + 2 * 0) p)))), (16, .int (iZ (((w + 1) : Nat) : Int)))]) (st1 := []) (v_c0 (v_c0 (v_c0 (v_c0 (v_c0 (v_c0 (v_c0 (v_c0 (v_c0 (v_c0 (v_c0 (v_c0 (v_c0 (v_cI (by first | (rw [bsF_y (by omega), (hst.way9 hp (by omega)).1]; done) | rw [bsF_n (by omega)]) (v_cI (by first | rw [bsF_y (by omega)] | rw [bsF_n (by omega)]) (v_c0 (v_cI (by first | rfl | omega) rfl))))))))))))))))) rfl ?_
          exact ih801 (w + 1) (by omega) (by omega)
        · refine v_aload 7 K dL_law_837 rfl ?_
          refine v_iconst K dL_law_839 ?_
          refine v_iload 12 K dL_law_840 rfl ?_
          refine v_imul K dL_law_842 ?_
          refine v_iload 17 K dL_law_843 rfl ?_
          refine v_iadd K dL_law_845 ?_
          refine v_iald (c := 51) ((3 * p) + w) K isI_51 (by omega) (by omega) dL_law_846 ?_
          refine v_goto 852 K dL_law_847 (by decide) ?_
          refine v_istore [(13, .int (iZ (μ 51 ((3 * p) + w)))), (17, .int (iZ (cst μ 0 p (w : Int)))), (0, .ref (σ.1.1)), (1, .ref (vAd X 0)), (2, .int (iZ (s : Int))), (3, .int (iZ (n : Int))), (4, .ref (vAd X 49)), (5, .ref (vAd X 50)), (6, .ref (vAd X 51)), (7, .int (iZ 1)), (8, .int (iZ z)), (9, .int (iZ (i : Int))), (10, .int (iZ a)), (11, .int (iZ (p : Int))), (12, .int (iZ x)), (14, .int (iZ (cst μ 0 p (bsF μ 0 p w)))), (15, .int (iZ (cst μ 0 p (μ (5 + 2 * 0) p)))), (16, .int (iZ (w : Int)))] K dL_law_852 (by decide) rfl ?_
          refine v_iload 1 K dL_law_854 rfl ?_
          refine v_iload 15 K dL_law_856 rfl ?_
          refine v_icmp_ge 866 K dL_law_858 (by decide) (by omega) (by omega) (fun c858 => (by exfalso; omega)) (fun c858 => ?_)
          refine v_iload 1 K dL_law_861 rfl ?_
          refine v_goto 868 K dL_law_863 (by decide) ?_
          refine v_istore [(14, .int (iZ (cst μ 0 p (w : Int)))), (13, .int (iZ (μ 51 ((3 * p) + w)))), (17, .int (iZ (cst μ 0 p (w : Int)))), (0, .ref (σ.1.1)), (1, .ref (vAd X 0)), (2, .int (iZ (s : Int))), (3, .int (iZ (n : Int))), (4, .ref (vAd X 49)), (5, .ref (vAd X 50)), (6, .ref (vAd X 51)), (7, .int (iZ 1)), (8, .int (iZ z)), (9, .int (iZ (i : Int))), (10, .int (iZ a)), (11, .int (iZ (p : Int))), (12, .int (iZ x)), (15, .int (iZ (cst μ 0 p (μ (5 + 2 * 0) p)))), (16, .int (iZ (w : Int)))] K dL_law_868 (by decide) rfl ?_
          refine v_iinc 17 [(16, .int (iZ ((w : Int) + 1))), (14, .int (iZ (cst μ 0 p (w : Int)))), (13, .int (iZ (μ 51 ((3 * p) + w)))), (17, .int (iZ (cst μ 0 p (w : Int)))), (0, .ref (σ.1.1)), (1, .ref (vAd X 0)), (2, .int (iZ (s : Int))), (3, .int (iZ (n : Int))), (4, .ref (vAd X 49)), (5, .ref (vAd X 50)), (6, .ref (vAd X 51)), (7, .int (iZ 1)), (8, .int (iZ z)), (9, .int (iZ (i : Int))), (10, .int (iZ a)), (11, .int (iZ (p : Int))), (12, .int (iZ x)), (15, .int (iZ (cst μ 0 p (μ (5 + 2 * 0) p))))] K dL_law_870 rfl (by decide) rfl ?_
          refine v_goto 801 K dL_law_873 (by decide) ?_
          refine v_sub [4, 5, 6, 7, 8, 9, 10, 11, 12, 13, 14, 15, 16, 2, 1, 17, 0] rfl ?_
          refine v_eq (lv1 := [(0, .ref (σ.1.1)), (1, .ref (vAd X 0)), (2, .int (iZ (s : Int))), (3, .int (iZ (n : Int))), (4, .ref (vAd X 49)), (5, .ref (vAd X 50)), (6, .ref (vAd X 51)), (7, .int (iZ 1)), (8, .int (iZ z)), (9, .int (iZ (i : Int))), (10, .int (iZ a)), (11, .int (iZ (p : Int))), (12, .int (iZ x)), (13, .int (iZ (bits μ p (bsF μ 0 p (w + 1))))), (14, .int (iZ (cst μ 0 p (bsF μ 0 p (w + 1))))), (15, .int (iZ (cst μ 0 p (μ (5 + 2 * 0) p)))), (16, .int (iZ (((w + 1) : Nat) : Int)))]) (st1 := []) (v_c0 (v_c0 (v_c0 (v_c0 (v_c0 (v_c0 (v_c0 (v_c0 (v_c0 (v_c0 (v_c0 (v_c0 (v_c0 (v_cI (by first | (rw [bsF_y (by omega), (hst.way9 hp (by omega)).1]; done) | rw [bsF_n (by omega)]) (v_cI (by first | rw [bsF_y (by omega)] | rw [bsF_n (by omega)]) (v_c0 (v_cI (by first | rfl | omega) rfl))))))))))))))))) rfl ?_
          exact ih801 (w + 1) (by omega) (by omega)
  refine v_sub [4, 5, 6, 7, 8, 9, 10, 11, 12, 13, 14, 15, 16, 3, 2, 1, 0] rfl ?_
  refine v_eq (lv1 := [(0, .ref (σ.1.1)), (1, .ref (vAd X 0)), (2, .int (iZ (s : Int))), (3, .int (iZ (n : Int))), (4, .ref (vAd X 49)), (5, .ref (vAd X 50)), (6, .ref (vAd X 51)), (7, .int (iZ 1)), (8, .int (iZ z)), (9, .int (iZ (i : Int))), (10, .int (iZ a)), (11, .int (iZ (p : Int))), (12, .int (iZ x)), (13, .int (iZ (bits μ p (bsF μ 0 p 0)))), (14, .int (iZ (cst μ 0 p (bsF μ 0 p 0)))), (15, .int (iZ (cst μ 0 p (μ (5 + 2 * 0) p)))), (16, .int (iZ ((0 : Nat) : Int)))]) (st1 := []) (v_c0 (v_c0 (v_c0 (v_c0 (v_c0 (v_c0 (v_c0 (v_c0 (v_c0 (v_c0 (v_c0 (v_c0 (v_c0 (v_cI (by rw [hpl.2.2.1]; rfl) (v_cI rfl (v_c0 (v_cI (by first | rfl | omega) rfl))))))))))))))))) rfl ?_
  exact L801 (4 - 0 + 1) 0 (by omega) (by omega)
