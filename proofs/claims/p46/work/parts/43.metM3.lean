theorem dL_law_1498 : decode cL_law 1498 = .ok (.iconst 0, 1) := by decide +kernel
theorem dL_law_1499 : decode cL_law 1499 = .ok (.istore 13, 2) := by decide +kernel
theorem dL_law_1501 : decode cL_law 1501 = .ok (.iconst 0, 1) := by decide +kernel
theorem dL_law_1502 : decode cL_law 1502 = .ok (.istore 14, 2) := by decide +kernel
theorem dL_law_1504 : decode cL_law 1504 = .ok (.iload 14, 2) := by decide +kernel
theorem dL_law_1506 : decode cL_law 1506 = .ok (.iload_n 3, 1) := by decide +kernel
theorem dL_law_1507 : decode cL_law 1507 = .ok (.if_icmp .ge 162, 3) := by decide +kernel
theorem dL_law_1669 : decode cL_law 1669 = .ok (.iconst 0, 1) := by decide +kernel
theorem dL_law_1670 : decode cL_law 1670 = .ok (.istore 14, 2) := by decide +kernel
theorem dL_law_1672 : decode cL_law 1672 = .ok (.iload 14, 2) := by decide +kernel
theorem dL_law_1674 : decode cL_law 1674 = .ok (.iload_n 2, 1) := by decide +kernel
theorem dL_law_1675 : decode cL_law 1675 = .ok (.if_icmp .ge 81, 3) := by decide +kernel
theorem dL_law_1756 : decode cL_law 1756 = .ok (.iload 7, 2) := by decide +kernel
theorem dL_law_1758 : decode cL_law 1758 = .ok (.aload_n 1, 1) := by decide +kernel
theorem dL_law_1759 : decode cL_law 1759 = .ok (.invokevirtual 178, 3) := by decide +kernel
set_option maxRecDepth 20000 in
theorem ggL_law_X7_getTotal : GoodIn wsL_law wsX7_getTotal := goodIn_ca (goodIn_r _ [489, 18, 22, 490, 491, 492, 17, 493, 173, 46, 206, 139, 174, 42, 211, 213, 214, 215, 48, 216, 217, 62, 218, 2, 219, 220, 221, 222, 44, 223, 56, 602, 603, 604, 605, 606, 607, 608, 609, 610, 611, 612, 613, 614, 615, 643, 644, 645, 646, 647, 648, 636, 637, 638, 639, 640, 641, 642] (by decide +kernel) (by decide +kernel)) (goodIn_sub (fun _ h => List.mem_append_left _ (List.mem_append_left _ (List.mem_append_left _ (List.mem_append_left _ (List.mem_append_left _ (List.mem_append_right _ h)))))) (by decide +kernel))
set_option maxRecDepth 20000 in
theorem gL_law_X7_getTotal : GoodIn wsL_law (wsV RL 178 RX7 yX7_getTotal wsX7_getTotal) := goodIn_app (goodIn_of _ (by decide +kernel)) ggL_law_X7_getTotal
theorem dL_law_1762 : decode cL_law 1762 = .ok (.aload 4, 2) := by decide +kernel
theorem dL_law_1764 : decode cL_law 1764 = .ok (.iload_n 2, 1) := by decide +kernel
theorem dL_law_1765 : decode cL_law 1765 = .ok (.aload 5, 2) := by decide +kernel
theorem dL_law_1767 : decode cL_law 1767 = .ok (.iload_n 3, 1) := by decide +kernel
theorem dL_law_1768 : decode cL_law 1768 = .ok (.invokestatic 181, 3) := by decide +kernel
set_option maxRecDepth 20000 in
theorem ggL_law_L_total : GoodIn wsL_law wsL_total := goodIn_ca (goodIn_r _ [496, 363, 364, 101, 365, 366, 367, 368] (by decide +kernel) (by decide +kernel)) (goodIn_sub (fun _ h => List.mem_append_left _ (List.mem_append_left _ (List.mem_append_left _ (List.mem_append_left _ (List.mem_append_left _ (List.mem_append_right _ h)))))) (by decide +kernel))
set_option maxRecDepth 20000 in
theorem gL_law_L_total : GoodIn wsL_law (va_wsS RL 181 yL_total wsL_total) := goodIn_app (goodIn_of _ (by decide +kernel)) ggL_law_L_total
theorem dL_law_1771 : decode cL_law 1771 = .ok (.if_icmp .ne 33, 3) := by decide +kernel
theorem dL_law_1774 : decode cL_law 1774 = .ok (.aload_n 1, 1) := by decide +kernel
theorem dL_law_1775 : decode cL_law 1775 = .ok (.invokevirtual 185, 3) := by decide +kernel
set_option maxRecDepth 20000 in
theorem ggL_law_X7_greatestGain : GoodIn wsL_law wsX7_greatestGain := goodIn_ca (goodIn_r _ [500, 18, 22, 443, 444, 445, 17, 446, 173, 447, 426, 427, 428, 429, 421, 422, 423, 46, 424, 206, 430, 203, 204, 205, 207, 208, 209, 210, 139, 211, 174, 42, 212, 175, 213, 214, 215, 48, 216, 217, 62, 218, 2, 219, 220, 221, 222, 44, 223, 56, 431, 409, 410, 411, 299, 412, 325, 326, 327, 328, 425, 602, 603, 604, 605, 606, 607, 608, 609, 610, 611, 612, 643, 644, 645, 646, 647, 648, 613, 614, 615, 636, 637, 638, 639, 640, 641, 642] (by decide +kernel) (by decide +kernel)) (goodIn_sub (fun _ h => List.mem_append_left _ (List.mem_append_left _ (List.mem_append_left _ (List.mem_append_left _ (List.mem_append_left _ (List.mem_append_right _ h)))))) (by decide +kernel))
set_option maxRecDepth 20000 in
theorem gL_law_X7_greatestGain : GoodIn wsL_law (wsV RL 185 RX7 yX7_greatestGain wsX7_greatestGain) := goodIn_app (goodIn_of _ (by decide +kernel)) ggL_law_X7_greatestGain
theorem dL_law_1778 : decode cL_law 1778 = .ok (.iload 13, 2) := by decide +kernel
theorem dL_law_1780 : decode cL_law 1780 = .ok (.if_icmp .ne 24, 3) := by decide +kernel
theorem dL_law_1783 : decode cL_law 1783 = .ok (.aload_n 1, 1) := by decide +kernel
theorem dL_law_1784 : decode cL_law 1784 = .ok (.invokevirtual 188, 3) := by decide +kernel
set_option maxRecDepth 20000 in
theorem ggL_law_X7_isRest : GoodIn wsL_law wsX7_isRest := goodIn_ca (goodIn_r _ [504, 18, 22, 448, 449, 450, 17, 451, 173, 452, 453, 454, 455, 447, 426, 427, 428, 429, 421, 422, 423, 46, 424, 206, 430, 203, 204, 205, 207, 208, 209, 210, 139, 211, 174, 42, 212, 175, 213, 214, 215, 48, 216, 217, 62, 218, 2, 219, 220, 221, 222, 44, 223, 56, 431, 409, 410, 411, 299, 412, 325, 326, 327, 328, 602, 603, 604, 605, 606, 607, 608, 609, 610, 611, 612, 643, 644, 645, 646, 647, 648, 613, 614, 615, 636, 637, 638, 639, 640, 641, 642] (by decide +kernel) (by decide +kernel)) (goodIn_sub (fun _ h => List.mem_append_left _ (List.mem_append_left _ (List.mem_append_left _ (List.mem_append_left _ (List.mem_append_left _ (List.mem_append_right _ h)))))) (by decide +kernel))
set_option maxRecDepth 20000 in
theorem gL_law_X7_isRest : GoodIn wsL_law (wsV RL 188 RX7 yX7_isRest wsX7_isRest) := goodIn_app (goodIn_of _ (by decide +kernel)) ggL_law_X7_isRest
theorem dL_law_1787 : decode cL_law 1787 = .ok (.iload 13, 2) := by decide +kernel
theorem dL_law_1789 : decode cL_law 1789 = .ok (.ifCond .ne 7, 3) := by decide +kernel
theorem dL_law_1796 : decode cL_law 1796 = .ok (.iconst 0, 1) := by decide +kernel
theorem dL_law_1797 : decode cL_law 1797 = .ok (.if_icmp .ne 7, 3) := by decide +kernel
theorem dL_law_1800 : decode cL_law 1800 = .ok (.iconst 1, 1) := by decide +kernel
theorem dL_law_1801 : decode cL_law 1801 = .ok (.goto 4, 3) := by decide +kernel
theorem dL_law_1805 : decode cL_law 1805 = .ok (.iand, 1) := by decide +kernel
theorem dL_law_1806 : decode cL_law 1806 = .ok (.istore 7, 2) := by decide +kernel
theorem dL_law_1808 : decode cL_law 1808 = .ok (.iinc 9 1, 3) := by decide +kernel
theorem dL_law_1811 : decode cL_law 1811 = .ok (.goto (-1607), 3) := by decide +kernel
theorem dL_law_1792 : decode cL_law 1792 = .ok (.iconst 1, 1) := by decide +kernel
theorem dL_law_1793 : decode cL_law 1793 = .ok (.goto 4, 3) := by decide +kernel
theorem dL_law_1678 : decode cL_law 1678 = .ok (.aload 5, 2) := by decide +kernel
theorem dL_law_1680 : decode cL_law 1680 = .ok (.iload_n 3, 1) := by decide +kernel
theorem dL_law_1681 : decode cL_law 1681 = .ok (.iload 14, 2) := by decide +kernel
theorem dL_law_1683 : decode cL_law 1683 = .ok (.invokestatic 94, 3) := by decide +kernel
theorem dL_law_1686 : decode cL_law 1686 = .ok (.istore 15, 2) := by decide +kernel
theorem dL_law_1688 : decode cL_law 1688 = .ok (.iload 7, 2) := by decide +kernel
theorem dL_law_1690 : decode cL_law 1690 = .ok (.aload_n 1, 1) := by decide +kernel
theorem dL_law_1691 : decode cL_law 1691 = .ok (.iload 14, 2) := by decide +kernel
theorem dL_law_1693 : decode cL_law 1693 = .ok (.invokestatic 131, 3) := by decide +kernel
set_option maxRecDepth 20000 in
theorem ggL_law_L_getLoad : GoodIn wsL_law wsL_getLoad := goodIn_ca (goodIn_ca (goodIn_r _ [178, 179, 4, 180, 181, 182, 2, 183, 22, 184, 185, 186, 187, 188, 189, 190, 18, 134, 602, 603, 604, 605, 606, 607, 608, 613, 614, 615, 609, 610, 611, 612] (by decide +kernel) (by decide +kernel)) (goodIn_sub (fun _ h => List.mem_append_left _ (List.mem_append_left _ (List.mem_append_left _ (List.mem_append_left _ (List.mem_append_left _ (List.mem_append_right _ h)))))) (by decide +kernel))) (goodIn_sub (fun _ h => List.mem_append_left _ (List.mem_append_left _ (List.mem_append_right _ h))) (by decide +kernel))
set_option maxRecDepth 20000 in
theorem gL_law_L_getLoad : GoodIn wsL_law (va_wsS RL 131 yL_getLoad wsL_getLoad) := goodIn_app (goodIn_of _ (by decide +kernel)) ggL_law_L_getLoad
theorem dL_law_1696 : decode cL_law 1696 = .ok (.iload 15, 2) := by decide +kernel
theorem dL_law_1698 : decode cL_law 1698 = .ok (.if_icmp .ne 48, 3) := by decide +kernel
theorem dL_law_1701 : decode cL_law 1701 = .ok (.aload_n 1, 1) := by decide +kernel
theorem dL_law_1702 : decode cL_law 1702 = .ok (.iload 14, 2) := by decide +kernel
theorem dL_law_1704 : decode cL_law 1704 = .ok (.iload 15, 2) := by decide +kernel
theorem dL_law_1706 : decode cL_law 1706 = .ok (.invokestatic 176, 3) := by decide +kernel
set_option maxRecDepth 20000 in
theorem ggL_law_L_getDelay : GoodIn wsL_law wsL_getDelay := goodIn_ca (goodIn_ca (goodIn_ca (goodIn_r _ [480, 179, 112, 4, 5, 481, 482, 483, 2, 484, 18, 345, 185, 186, 187, 188, 189, 190, 134, 124, 125, 126, 127, 122, 123, 485, 221, 222, 44, 223, 56, 602, 603, 604, 605, 606, 607, 608, 609, 610, 611, 612, 636, 637, 638, 639, 640, 641, 642] (by decide +kernel) (by decide +kernel)) (goodIn_sub (fun _ h => List.mem_append_left _ (List.mem_append_left _ (List.mem_append_right _ h))) (by decide +kernel))) (goodIn_sub (fun _ h => List.mem_append_left _ (List.mem_append_left _ (List.mem_append_left _ (List.mem_append_left _ (List.mem_append_right _ h))))) (by decide +kernel))) (goodIn_sub (fun _ h => List.mem_append_left _ (List.mem_append_left _ (List.mem_append_left _ (List.mem_append_left _ (List.mem_append_left _ (List.mem_append_right _ h)))))) (by decide +kernel))
set_option maxRecDepth 20000 in
theorem gL_law_L_getDelay : GoodIn wsL_law (va_wsS RL 176 yL_getDelay wsL_getDelay) := goodIn_app (goodIn_of _ (by decide +kernel)) ggL_law_L_getDelay
theorem dL_law_1709 : decode cL_law 1709 = .ok (.aload 4, 2) := by decide +kernel
theorem dL_law_1711 : decode cL_law 1711 = .ok (.iconst 4, 1) := by decide +kernel
theorem dL_law_1712 : decode cL_law 1712 = .ok (.iload 14, 2) := by decide +kernel
theorem dL_law_1714 : decode cL_law 1714 = .ok (.imul, 1) := by decide +kernel
theorem dL_law_1715 : decode cL_law 1715 = .ok (.iaload, 1) := by decide +kernel
theorem dL_law_1716 : decode cL_law 1716 = .ok (.aload 4, 2) := by decide +kernel
theorem dL_law_1718 : decode cL_law 1718 = .ok (.iconst 4, 1) := by decide +kernel
theorem dL_law_1719 : decode cL_law 1719 = .ok (.iload 14, 2) := by decide +kernel
theorem dL_law_1721 : decode cL_law 1721 = .ok (.imul, 1) := by decide +kernel
theorem dL_law_1722 : decode cL_law 1722 = .ok (.iconst 1, 1) := by decide +kernel
theorem dL_law_1723 : decode cL_law 1723 = .ok (.iadd, 1) := by decide +kernel
theorem dL_law_1724 : decode cL_law 1724 = .ok (.iaload, 1) := by decide +kernel
theorem dL_law_1725 : decode cL_law 1725 = .ok (.aload 4, 2) := by decide +kernel
theorem dL_law_1727 : decode cL_law 1727 = .ok (.iconst 4, 1) := by decide +kernel
theorem dL_law_1728 : decode cL_law 1728 = .ok (.iload 14, 2) := by decide +kernel
theorem dL_law_1730 : decode cL_law 1730 = .ok (.imul, 1) := by decide +kernel
theorem dL_law_1731 : decode cL_law 1731 = .ok (.iconst 2, 1) := by decide +kernel
theorem dL_law_1732 : decode cL_law 1732 = .ok (.iadd, 1) := by decide +kernel
theorem dL_law_1733 : decode cL_law 1733 = .ok (.iaload, 1) := by decide +kernel
theorem dL_law_1734 : decode cL_law 1734 = .ok (.iload 15, 2) := by decide +kernel
theorem dL_law_1736 : decode cL_law 1736 = .ok (.invokestatic 98, 3) := by decide +kernel
theorem dL_law_1739 : decode cL_law 1739 = .ok (.if_icmp .ne 7, 3) := by decide +kernel
theorem dL_law_1742 : decode cL_law 1742 = .ok (.iconst 1, 1) := by decide +kernel
theorem dL_law_1743 : decode cL_law 1743 = .ok (.goto 4, 3) := by decide +kernel
theorem dL_law_1747 : decode cL_law 1747 = .ok (.iand, 1) := by decide +kernel
theorem dL_law_1748 : decode cL_law 1748 = .ok (.istore 7, 2) := by decide +kernel
theorem dL_law_1750 : decode cL_law 1750 = .ok (.iinc 14 1, 3) := by decide +kernel
theorem dL_law_1753 : decode cL_law 1753 = .ok (.goto (-81), 3) := by decide +kernel
theorem dL_law_1510 : decode cL_law 1510 = .ok (.aload 4, 2) := by decide +kernel
theorem dL_law_1512 : decode cL_law 1512 = .ok (.iload_n 2, 1) := by decide +kernel
theorem dL_law_1513 : decode cL_law 1513 = .ok (.aload 5, 2) := by decide +kernel
theorem dL_law_1515 : decode cL_law 1515 = .ok (.iload_n 3, 1) := by decide +kernel
theorem dL_law_1516 : decode cL_law 1516 = .ok (.iload 14, 2) := by decide +kernel
theorem dL_law_1518 : decode cL_law 1518 = .ok (.invokestatic 102, 3) := by decide +kernel
theorem dL_law_1521 : decode cL_law 1521 = .ok (.istore 15, 2) := by decide +kernel
theorem dL_law_1523 : decode cL_law 1523 = .ok (.iload 7, 2) := by decide +kernel
theorem dL_law_1525 : decode cL_law 1525 = .ok (.aload_n 1, 1) := by decide +kernel
theorem dL_law_1526 : decode cL_law 1526 = .ok (.iload 14, 2) := by decide +kernel
theorem dL_law_1528 : decode cL_law 1528 = .ok (.invokestatic 126, 3) := by decide +kernel
set_option maxRecDepth 20000 in
theorem ggL_law_L_getCost : GoodIn wsL_law wsL_getCost := goodIn_ca (goodIn_ca (goodIn_r _ [193, 179, 4, 194, 195, 196, 2, 197, 18, 22, 198, 199, 200, 201, 189, 190, 168, 202, 203, 204, 17, 205, 206, 207, 208, 209, 210, 46, 139, 211, 174, 42, 212, 175, 213, 214, 215, 48, 216, 217, 62, 218, 219, 220, 221, 222, 44, 223, 56, 602, 603, 604, 605, 606, 607, 608, 609, 610, 611, 612, 613, 614, 615, 643, 644, 645, 646, 647, 648, 636, 637, 638, 639, 640, 641, 642] (by decide +kernel) (by decide +kernel)) (goodIn_sub (fun _ h => List.mem_append_left _ (List.mem_append_left _ (List.mem_append_right _ h))) (by decide +kernel))) (goodIn_sub (fun _ h => List.mem_append_left _ (List.mem_append_left _ (List.mem_append_left _ (List.mem_append_left _ (List.mem_append_left _ (List.mem_append_right _ h)))))) (by decide +kernel))
set_option maxRecDepth 20000 in
theorem gL_law_L_getCost : GoodIn wsL_law (va_wsS RL 126 yL_getCost wsL_getCost) := goodIn_app (goodIn_of _ (by decide +kernel)) ggL_law_L_getCost
theorem dL_law_1531 : decode cL_law 1531 = .ok (.iload 15, 2) := by decide +kernel
theorem dL_law_1533 : decode cL_law 1533 = .ok (.if_icmp .ne 31, 3) := by decide +kernel
theorem dL_law_1536 : decode cL_law 1536 = .ok (.aload_n 1, 1) := by decide +kernel
theorem dL_law_1537 : decode cL_law 1537 = .ok (.iload 14, 2) := by decide +kernel
theorem dL_law_1539 : decode cL_law 1539 = .ok (.aload_n 1, 1) := by decide +kernel
theorem dL_law_1540 : decode cL_law 1540 = .ok (.iload 14, 2) := by decide +kernel
theorem dL_law_1542 : decode cL_law 1542 = .ok (.invokestatic 123, 3) := by decide +kernel
theorem dL_law_1545 : decode cL_law 1545 = .ok (.invokestatic 142, 3) := by decide +kernel
theorem dL_law_1548 : decode cL_law 1548 = .ok (.aload 5, 2) := by decide +kernel
theorem dL_law_1550 : decode cL_law 1550 = .ok (.iconst 4, 1) := by decide +kernel
theorem dL_law_1551 : decode cL_law 1551 = .ok (.iload 14, 2) := by decide +kernel
theorem dL_law_1553 : decode cL_law 1553 = .ok (.imul, 1) := by decide +kernel
theorem dL_law_1554 : decode cL_law 1554 = .ok (.iconst 2, 1) := by decide +kernel
theorem dL_law_1555 : decode cL_law 1555 = .ok (.iadd, 1) := by decide +kernel
theorem dL_law_1556 : decode cL_law 1556 = .ok (.iaload, 1) := by decide +kernel
theorem dL_law_1557 : decode cL_law 1557 = .ok (.if_icmp .ne 7, 3) := by decide +kernel
theorem dL_law_1560 : decode cL_law 1560 = .ok (.iconst 1, 1) := by decide +kernel
theorem dL_law_1561 : decode cL_law 1561 = .ok (.goto 4, 3) := by decide +kernel
theorem dL_law_1565 : decode cL_law 1565 = .ok (.iand, 1) := by decide +kernel
theorem dL_law_1566 : decode cL_law 1566 = .ok (.istore 7, 2) := by decide +kernel
theorem dL_law_1568 : decode cL_law 1568 = .ok (.iconst 0, 1) := by decide +kernel
theorem dL_law_1569 : decode cL_law 1569 = .ok (.istore 16, 2) := by decide +kernel
theorem dL_law_1571 : decode cL_law 1571 = .ok (.iload 16, 2) := by decide +kernel
theorem dL_law_1573 : decode cL_law 1573 = .ok (.iconst 3, 1) := by decide +kernel
theorem dL_law_1574 : decode cL_law 1574 = .ok (.if_icmp .ge 89, 3) := by decide +kernel
theorem dL_law_1663 : decode cL_law 1663 = .ok (.iinc 14 1, 3) := by decide +kernel
theorem dL_law_1666 : decode cL_law 1666 = .ok (.goto (-162), 3) := by decide +kernel
theorem dL_law_1577 : decode cL_law 1577 = .ok (.aload 4, 2) := by decide +kernel
theorem dL_law_1579 : decode cL_law 1579 = .ok (.iload_n 2, 1) := by decide +kernel
theorem dL_law_1580 : decode cL_law 1580 = .ok (.aload 5, 2) := by decide +kernel
theorem dL_law_1582 : decode cL_law 1582 = .ok (.iload_n 3, 1) := by decide +kernel
theorem dL_law_1583 : decode cL_law 1583 = .ok (.iload 14, 2) := by decide +kernel
theorem dL_law_1585 : decode cL_law 1585 = .ok (.aload 6, 2) := by decide +kernel
theorem dL_law_1587 : decode cL_law 1587 = .ok (.iconst 3, 1) := by decide +kernel
theorem dL_law_1588 : decode cL_law 1588 = .ok (.iload 14, 2) := by decide +kernel
theorem dL_law_1590 : decode cL_law 1590 = .ok (.imul, 1) := by decide +kernel
theorem dL_law_1591 : decode cL_law 1591 = .ok (.iload 16, 2) := by decide +kernel
theorem dL_law_1593 : decode cL_law 1593 = .ok (.iadd, 1) := by decide +kernel
theorem dL_law_1594 : decode cL_law 1594 = .ok (.iaload, 1) := by decide +kernel
theorem dL_law_1595 : decode cL_law 1595 = .ok (.invokestatic 157, 3) := by decide +kernel
theorem dL_law_1598 : decode cL_law 1598 = .ok (.istore 17, 2) := by decide +kernel
theorem dL_law_1600 : decode cL_law 1600 = .ok (.aload 5, 2) := by decide +kernel
theorem dL_law_1602 : decode cL_law 1602 = .ok (.iconst 4, 1) := by decide +kernel
theorem dL_law_1603 : decode cL_law 1603 = .ok (.iload 14, 2) := by decide +kernel
theorem dL_law_1605 : decode cL_law 1605 = .ok (.imul, 1) := by decide +kernel
theorem dL_law_1606 : decode cL_law 1606 = .ok (.iconst 3, 1) := by decide +kernel
theorem dL_law_1607 : decode cL_law 1607 = .ok (.iadd, 1) := by decide +kernel
theorem dL_law_1608 : decode cL_law 1608 = .ok (.iaload, 1) := by decide +kernel
theorem dL_law_1609 : decode cL_law 1609 = .ok (.ifCond .ne 21, 3) := by decide +kernel
theorem dL_law_1630 : decode cL_law 1630 = .ok (.iload 13, 2) := by decide +kernel
theorem dL_law_1632 : decode cL_law 1632 = .ok (.istore 13, 2) := by decide +kernel
theorem dL_law_1634 : decode cL_law 1634 = .ok (.iload 7, 2) := by decide +kernel
theorem dL_law_1636 : decode cL_law 1636 = .ok (.aload_n 1, 1) := by decide +kernel
theorem dL_law_1637 : decode cL_law 1637 = .ok (.iload 14, 2) := by decide +kernel
theorem dL_law_1639 : decode cL_law 1639 = .ok (.iload 16, 2) := by decide +kernel
theorem dL_law_1641 : decode cL_law 1641 = .ok (.invokestatic 174, 3) := by decide +kernel
set_option maxRecDepth 20000 in
theorem ggL_law_L_costOf : GoodIn wsL_law wsL_costOf := goodIn_ca (goodIn_ca (goodIn_r _ [472, 179, 4, 473, 474, 475, 2, 476, 18, 22, 320, 321, 322, 323, 189, 190, 289, 290, 198, 199, 200, 201, 168, 477, 208, 209, 17, 210, 46, 206, 139, 211, 174, 42, 212, 175, 213, 214, 215, 48, 216, 217, 62, 218, 219, 220, 221, 222, 44, 223, 56, 602, 603, 604, 605, 606, 607, 608, 609, 610, 611, 612, 643, 644, 645, 646, 647, 648, 613, 614, 615, 636, 637, 638, 639, 640, 641, 642] (by decide +kernel) (by decide +kernel)) (goodIn_sub (fun _ h => List.mem_append_left _ (List.mem_append_left _ (List.mem_append_right _ h))) (by decide +kernel))) (goodIn_sub (fun _ h => List.mem_append_left _ (List.mem_append_left _ (List.mem_append_left _ (List.mem_append_left _ (List.mem_append_left _ (List.mem_append_right _ h)))))) (by decide +kernel))
set_option maxRecDepth 20000 in
theorem gL_law_L_costOf : GoodIn wsL_law (va_wsS RL 174 yL_costOf wsL_costOf) := goodIn_app (goodIn_of _ (by decide +kernel)) ggL_law_L_costOf
theorem dL_law_1644 : decode cL_law 1644 = .ok (.iload 17, 2) := by decide +kernel
theorem dL_law_1646 : decode cL_law 1646 = .ok (.if_icmp .ne 7, 3) := by decide +kernel
theorem dL_law_1649 : decode cL_law 1649 = .ok (.iconst 1, 1) := by decide +kernel
theorem dL_law_1650 : decode cL_law 1650 = .ok (.goto 4, 3) := by decide +kernel
theorem dL_law_1654 : decode cL_law 1654 = .ok (.iand, 1) := by decide +kernel
theorem dL_law_1655 : decode cL_law 1655 = .ok (.istore 7, 2) := by decide +kernel
theorem dL_law_1657 : decode cL_law 1657 = .ok (.iinc 16 1, 3) := by decide +kernel
theorem dL_law_1660 : decode cL_law 1660 = .ok (.goto (-89), 3) := by decide +kernel
theorem dL_law_1612 : decode cL_law 1612 = .ok (.iload 15, 2) := by decide +kernel
theorem dL_law_1614 : decode cL_law 1614 = .ok (.iload 17, 2) := by decide +kernel
theorem dL_law_1616 : decode cL_law 1616 = .ok (.isub, 1) := by decide +kernel
theorem dL_law_1617 : decode cL_law 1617 = .ok (.iload 13, 2) := by decide +kernel
theorem dL_law_1619 : decode cL_law 1619 = .ok (.if_icmp .le 11, 3) := by decide +kernel
theorem dL_law_1622 : decode cL_law 1622 = .ok (.iload 15, 2) := by decide +kernel
theorem dL_law_1624 : decode cL_law 1624 = .ok (.iload 17, 2) := by decide +kernel
theorem dL_law_1626 : decode cL_law 1626 = .ok (.isub, 1) := by decide +kernel
theorem dL_law_1627 : decode cL_law 1627 = .ok (.goto 5, 3) := by decide +kernel
set_option maxHeartbeats 8000000 in
set_option maxRecDepth 100000 in
theorem gc_98 {X : VC} {σ : SX} {μ : Mem} (kc : Nat) (ks : Nat) (s : Nat) (n : Nat) (z : Int) (i : Nat) (hkc : kc ≤ 590000) (hks : ks ≤ 7000000) (hi : i < 14) (hst : LST μ s n z) (K : vK X cL_law 28 RL wsL_law rmL) (SJ : lxJ X.2.2.2.1 X.2.1.1 σ) (L204 : vW X 28 204 (kc + 60) (ks + 600) [(0, .ref (σ.1.1)), (1, .ref (vAd X 0)), (2, .int (iZ (s : Int))), (3, .int (iZ (n : Int))), (4, .ref (vAd X 49)), (5, .ref (vAd X 50)), (6, .ref (vAd X 51)), (7, .int (iZ 1)), (8, .int (iZ z)), (9, .int (iZ (((i + 1) : Nat) : Int)))] [] μ) : vW X 28 1498 kc ks [(0, .ref (σ.1.1)), (1, .ref (vAd X 0)), (2, .int (iZ (s : Int))), (3, .int (iZ (n : Int))), (4, .ref (vAd X 49)), (5, .ref (vAd X 50)), (6, .ref (vAd X 51)), (7, .int (iZ 1)), (8, .int (iZ z)), (9, .int (iZ (i : Int)))] [] μ := by
  obtain ⟨hW, hL, hL1, hR, hz, hz1, hz2⟩ := id hst
  have hs5 := hR.2.2.1
  have hn5 := hR.2.2.2.1
  have hrs := hR.1
  have hrn := hR.2.1
  have hB := hL.PB9 hW
  have h6 := hW.pc6
  have h8 := hW.rc8
  have hPO := hR.POK9 hW
  have hRO := hR.ROK9 hW
  refine v_iconst K dL_law_1498 ?_
  refine v_istore [(13, .int (iZ 0)), (0, .ref (σ.1.1)), (1, .ref (vAd X 0)), (2, .int (iZ (s : Int))), (3, .int (iZ (n : Int))), (4, .ref (vAd X 49)), (5, .ref (vAd X 50)), (6, .ref (vAd X 51)), (7, .int (iZ 1)), (8, .int (iZ z)), (9, .int (iZ (i : Int)))] K dL_law_1499 (by decide) rfl ?_
  refine v_iconst K dL_law_1501 ?_
  refine v_istore [(14, .int (iZ 0)), (13, .int (iZ 0)), (0, .ref (σ.1.1)), (1, .ref (vAd X 0)), (2, .int (iZ (s : Int))), (3, .int (iZ (n : Int))), (4, .ref (vAd X 49)), (5, .ref (vAd X 50)), (6, .ref (vAd X 51)), (7, .int (iZ 1)), (8, .int (iZ z)), (9, .int (iZ (i : Int)))] K dL_law_1502 (by decide) rfl ?_
  have L1504 : ∀ (fuel : Nat) (q : Nat) (hm : 7 - q < fuel) (hq : q ≤ n), vW X 28 1504 kc ks [(0, .ref (σ.1.1)), (1, .ref (vAd X 0)), (2, .int (iZ (s : Int))), (3, .int (iZ (n : Int))), (4, .ref (vAd X 49)), (5, .ref (vAd X 50)), (6, .ref (vAd X 51)), (7, .int (iZ 1)), (8, .int (iZ z)), (9, .int (iZ (i : Int))), (13, .int (iZ ((mgF μ 0 q).2))), (14, .int (iZ (q : Int)))] [] μ := by
    intro fuel
    induction fuel with
    | zero => intro q hm; exact absurd hm (Nat.not_lt_zero _)
    | succ fuel ih1504 =>
      intro q hm hq
      refine v_iload 11 K dL_law_1504 rfl ?_
      refine v_iload_n 3 K dL_law_1506 rfl ?_
      refine v_icmp_ge 1669 K dL_law_1507 (by decide) (by omega) (by omega) (fun c1507 => ?_) (fun c1507 => ?_)
      · have hqn : q = n := by omega
        have hmn := mgF_rng hW (y := 0) n (by omega)
        have hmq2 : (mgF μ 0 q).2 = (mgF μ 0 n).2 := by rw [hqn]
        refine v_iconst K dL_law_1669 ?_
        refine v_istore [(14, .int (iZ 0)), (0, .ref (σ.1.1)), (1, .ref (vAd X 0)), (2, .int (iZ (s : Int))), (3, .int (iZ (n : Int))), (4, .ref (vAd X 49)), (5, .ref (vAd X 50)), (6, .ref (vAd X 51)), (7, .int (iZ 1)), (8, .int (iZ z)), (9, .int (iZ (i : Int))), (13, .int (iZ ((mgF μ 0 q).2)))] K dL_law_1670 (by decide) rfl ?_
        have L1672 : ∀ (fuel : Nat) (r : Nat) (hm : 9 - r < fuel) (hr : r ≤ s), vW X 28 1672 kc ks [(0, .ref (σ.1.1)), (1, .ref (vAd X 0)), (2, .int (iZ (s : Int))), (3, .int (iZ (n : Int))), (4, .ref (vAd X 49)), (5, .ref (vAd X 50)), (6, .ref (vAd X 51)), (7, .int (iZ 1)), (8, .int (iZ z)), (9, .int (iZ (i : Int))), (13, .int (iZ ((mgF μ 0 q).2))), (14, .int (iZ (r : Int)))] [] μ := by
          intro fuel
          induction fuel with
          | zero => intro r hm; exact absurd hm (Nat.not_lt_zero _)
          | succ fuel ih1672 =>
            intro r hm hr
            refine v_iload 11 K dL_law_1672 rfl ?_
            refine v_iload_n 2 K dL_law_1674 rfl ?_
            refine v_icmp_ge 1756 K dL_law_1675 (by decide) (by omega) (by omega) (fun c1675 => ?_) (fun c1675 => ?_)
            · have htb := tot_rng hW hL hR
              refine v_iload 7 K dL_law_1756 rfl ?_
              refine v_aload_n 1 K dL_law_1758 rfl ?_
              refine v_callVir (c := 0) (As := []) (rest := [.int (iZ 1)]) K isO_SJ rfl 0 (c_X7_getTotal X.1.2.1 K.2.2.2.2.2.2 _ _ _ μ (by omega) (by omega)) gL_law_X7_getTotal rfl rfl rfl (by decide +kernel) ⟨(Nat.le_of_ble_eq_true rfl), (Nat.le_of_ble_eq_true rfl)⟩ rfl rfl (Nat.le_of_ble_eq_true rfl) dL_law_1759 ⟨(by show kc + 0 ≤ 600258; omega), (by show ks + 0 ≤ 7292426; omega)⟩ ?_
              refine v_aload 4 K dL_law_1762 rfl ?_
              refine v_iload_n 2 K dL_law_1764 rfl ?_
              refine v_aload 5 K dL_law_1765 rfl ?_
              refine v_iload_n 3 K dL_law_1767 rfl ?_
              refine v_callSir (As := [.ref (vAd X 49), .int (iZ (s : Int)), .ref (vAd X 50), .int (iZ (n : Int))]) (rest := [.int (iZ (tot μ 0)), .int (iZ 1)]) K 4 (c_L_total X.1.2.1 K.2.2.2.2.2.2 _ _ _ μ s n hRO hPO) gL_law_L_total rfl rfl rfl (by decide +kernel) ⟨(Nat.le_of_ble_eq_true rfl), (Nat.le_of_ble_eq_true rfl)⟩ rfl rfl (Nat.le_of_ble_eq_true rfl) dL_law_1768 ⟨(by show kc + 0 ≤ 600258; omega), (by show ks + 0 ≤ 7292426; omega)⟩ ?_
              refine v_top (b := (tot μ 0)) (by rw [ltt_tot hW hL hR]) ?_
              refine v_icmp_ne 1804 K dL_law_1771 (by decide) (by omega) (by omega) (fun c1771 => (by exfalso; omega)) (fun c1771 => ?_)
              refine v_aload_n 1 K dL_law_1774 rfl ?_
              refine v_callVir (c := 0) (As := []) (rest := [.int (iZ 1)]) K isO_SJ rfl 0 (c_X7_greatestGain X.1.2.1 K.2.2.2.2.2.2 _ _ _ μ (by omega) (by omega)) gL_law_X7_greatestGain rfl rfl rfl (by decide +kernel) ⟨(Nat.le_of_ble_eq_true rfl), (Nat.le_of_ble_eq_true rfl)⟩ rfl rfl (Nat.le_of_ble_eq_true rfl) dL_law_1775 ⟨(by show kc + 0 ≤ 600258; omega), (by show ks + 0 ≤ 7292426; omega)⟩ ?_
              refine v_top (b := (mgF μ 0 q).2) (by rw [hrn, hqn]) ?_
              refine v_iload 10 K dL_law_1778 rfl ?_
              refine v_icmp_ne 1804 K dL_law_1780 (by decide) (by omega) (by omega) (fun c1780 => (by exfalso; omega)) (fun c1780 => ?_)
              refine v_aload_n 1 K dL_law_1783 rfl ?_
              refine v_callVis (c := 0) (As := []) (rest := [.int (iZ 1)]) K isO_SJ rfl 0 (c_X7_isRest X.1.2.1 K.2.2.2.2.2.2 _ _ _ μ (by omega) (by omega)) gL_law_X7_isRest rfl rfl rfl (by decide +kernel) ⟨(Nat.le_of_ble_eq_true rfl), (Nat.le_of_ble_eq_true rfl)⟩ rfl rfl (Nat.le_of_ble_eq_true rfl) dL_law_1784 ⟨(by show kc + 0 ≤ 600258; omega), (by show ks + 0 ≤ 7292426; omega)⟩ (fun z84 q1784 => ?_)
              rw [hrn] at q1784
              refine v_iload 10 K dL_law_1787 rfl ?_
              refine v_if_ne 1796 K dL_law_1789 (by decide) (by omega) (fun c1789 => ?_) (fun c1789 => ?_)
              · refine v_iconst K dL_law_1796 ?_
                refine v_icmp_ne 1804 K dL_law_1797 (by decide) (by omega) (by decide) (fun c1797 => (by exfalso; (rcases q1784 with ⟨e1, e2⟩ | ⟨e1, j, e2, e3⟩; (have := mg_0 n e2; rw [← hqn] at this; omega); (have := mg_pos hW n (by omega) j e2; rw [← hqn] at this; omega)))) (fun c1797 => ?_)
                refine v_iconst K dL_law_1800 ?_
                refine v_goto 1805 K dL_law_1801 (by decide) ?_
                refine v_iand (z := 1) rfl K dL_law_1805 ?_
                refine v_istore [(7, .int (iZ 1)), (0, .ref (σ.1.1)), (1, .ref (vAd X 0)), (2, .int (iZ (s : Int))), (3, .int (iZ (n : Int))), (4, .ref (vAd X 49)), (5, .ref (vAd X 50)), (6, .ref (vAd X 51)), (8, .int (iZ z)), (9, .int (iZ (i : Int))), (13, .int (iZ ((mgF μ 0 q).2))), (14, .int (iZ (r : Int)))] K dL_law_1806 (by decide) rfl ?_
                refine v_iinc 9 [(9, .int (iZ ((i : Int) + 1))), (7, .int (iZ 1)), (0, .ref (σ.1.1)), (1, .ref (vAd X 0)), (2, .int (iZ (s : Int))), (3, .int (iZ (n : Int))), (4, .ref (vAd X 49)), (5, .ref (vAd X 50)), (6, .ref (vAd X 51)), (8, .int (iZ z)), (13, .int (iZ ((mgF μ 0 q).2))), (14, .int (iZ (r : Int)))] K dL_law_1808 rfl (by decide) rfl ?_
                refine v_goto 204 K dL_law_1811 (by decide) ?_
                refine v_sub [2, 3, 4, 5, 6, 7, 8, 1, 9, 0] rfl ?_
                refine v_eq (lv1 := [(0, .ref (σ.1.1)), (1, .ref (vAd X 0)), (2, .int (iZ (s : Int))), (3, .int (iZ (n : Int))), (4, .ref (vAd X 49)), (5, .ref (vAd X 50)), (6, .ref (vAd X 51)), (7, .int (iZ 1)), (8, .int (iZ z)), (9, .int (iZ (((i + 1) : Nat) : Int)))]) (st1 := []) (v_c0 (v_c0 (v_c0 (v_c0 (v_c0 (v_c0 (v_c0 (v_c0 (v_c0 (v_cI (by omega) rfl)))))))))) rfl ?_
                refine v_wid (c2 := (kc + 60)) (s2 := (ks + 600)) (by show kc ≤ (kc + 60); omega) (by show ks ≤ (ks + 600); omega) ?_
                exact L204 
              · refine v_iconst K dL_law_1792 ?_
                refine v_goto 1797 K dL_law_1793 (by decide) ?_
                refine v_icmp_ne 1804 K dL_law_1797 (by decide) (by omega) (by decide) (fun c1797 => (by exfalso; (rcases q1784 with ⟨e1, e2⟩ | ⟨e1, j, e2, e3⟩; (have := mg_0 n e2; rw [← hqn] at this; omega); (have := mg_pos hW n (by omega) j e2; rw [← hqn] at this; omega)))) (fun c1797 => ?_)
                refine v_iconst K dL_law_1800 ?_
                refine v_goto 1805 K dL_law_1801 (by decide) ?_
                refine v_iand (z := 1) rfl K dL_law_1805 ?_
                refine v_istore [(7, .int (iZ 1)), (0, .ref (σ.1.1)), (1, .ref (vAd X 0)), (2, .int (iZ (s : Int))), (3, .int (iZ (n : Int))), (4, .ref (vAd X 49)), (5, .ref (vAd X 50)), (6, .ref (vAd X 51)), (8, .int (iZ z)), (9, .int (iZ (i : Int))), (13, .int (iZ ((mgF μ 0 q).2))), (14, .int (iZ (r : Int)))] K dL_law_1806 (by decide) rfl ?_
                refine v_iinc 9 [(9, .int (iZ ((i : Int) + 1))), (7, .int (iZ 1)), (0, .ref (σ.1.1)), (1, .ref (vAd X 0)), (2, .int (iZ (s : Int))), (3, .int (iZ (n : Int))), (4, .ref (vAd X 49)), (5, .ref (vAd X 50)), (6, .ref (vAd X 51)), (8, .int (iZ z)), (13, .int (iZ ((mgF μ 0 q).2))), (14, .int (iZ (r : Int)))] K dL_law_1808 rfl (by decide) rfl ?_
                refine v_goto 204 K dL_law_1811 (by decide) ?_
                refine v_sub [2, 3, 4, 5, 6, 7, 8, 1, 9, 0] rfl ?_
                refine v_eq (lv1 := [(0, .ref (σ.1.1)), (1, .ref (vAd X 0)), (2, .int (iZ (s : Int))), (3, .int (iZ (n : Int))), (4, .ref (vAd X 49)), (5, .ref (vAd X 50)), (6, .ref (vAd X 51)), (7, .int (iZ 1)), (8, .int (iZ z)), (9, .int (iZ (((i + 1) : Nat) : Int)))]) (st1 := []) (v_c0 (v_c0 (v_c0 (v_c0 (v_c0 (v_c0 (v_c0 (v_c0 (v_c0 (v_cI (by omega) rfl)))))))))) rfl ?_
                refine v_wid (c2 := (kc + 60)) (s2 := (ks + 600)) (by show kc ≤ (kc + 60); omega) (by show ks ≤ (ks + 600); omega) ?_
                exact L204 
            · have hr0 : r < s := by omega
              have hrl := hR.2.2.2.2.1 r hr0
              obtain ⟨g1, g2, g3, g4, -⟩ := id hrl
              have hld := BL_rng hW hL.2.1 (r := r) (by omega)
              have hdl := dly_rng hW (r := r) (by omega) (μ (6 + 2 * 0) r)
              refine v_aload 5 K dL_law_1678 rfl ?_
              refine v_iload_n 3 K dL_law_1680 rfl ?_
              refine v_iload 11 K dL_law_1681 rfl ?_
              refine v_callSir (As := [.ref (vAd X 50), .int (iZ (n : Int)), .int (iZ (r : Int))]) (rest := []) K 3 (c_L_load X.1.2.1 K.2.2.2.2.2.2 _ _ _ μ n r hPO (by omega)) gL_law_L_load rfl rfl rfl (by decide +kernel) ⟨(Nat.le_of_ble_eq_true rfl), (Nat.le_of_ble_eq_true rfl)⟩ rfl rfl (Nat.le_of_ble_eq_true rfl) dL_law_1683 ⟨(by show kc + 0 ≤ 600258; omega), (by show ks + 0 ≤ 7292426; omega)⟩ ?_
              refine v_top (b := (μ (6 + 2 * 0) r)) (by rw [lld_ld hW hL hR hr0]) ?_
              refine v_istore [(15, .int (iZ (μ (6 + 2 * 0) r))), (0, .ref (σ.1.1)), (1, .ref (vAd X 0)), (2, .int (iZ (s : Int))), (3, .int (iZ (n : Int))), (4, .ref (vAd X 49)), (5, .ref (vAd X 50)), (6, .ref (vAd X 51)), (7, .int (iZ 1)), (8, .int (iZ z)), (9, .int (iZ (i : Int))), (13, .int (iZ ((mgF μ 0 q).2))), (14, .int (iZ (r : Int)))] K dL_law_1686 (by decide) rfl ?_
              refine v_iload 8 K dL_law_1688 rfl ?_
              refine v_aload_n 2 K dL_law_1690 rfl ?_
              refine v_iload 12 K dL_law_1691 rfl ?_
              refine v_callSWir (As := [.ref (vAd X 0), .int (iZ (r : Int))]) (rest := [.int (iZ 1)]) K 2 (c_L_getLoad X.1.2.1 K.2.2.2.2.2.2 _ _ _ μ r (by omega) (by omega)) gL_law_L_getLoad rfl rfl rfl (by decide +kernel) ⟨(Nat.le_of_ble_eq_true rfl), (Nat.le_of_ble_eq_true rfl)⟩ rfl rfl (Nat.le_of_ble_eq_true rfl) dL_law_1693 ⟨(by show kc + 0 ≤ 600258; omega), (by show ks + 0 ≤ 7292426; omega)⟩ ?_
              refine v_iload 0 K dL_law_1696 rfl ?_
              refine v_icmp_ne 1746 K dL_law_1698 (by decide) (by omega) (by omega) (fun c1698 => (by exfalso; omega)) (fun c1698 => ?_)
              refine v_aload_n 2 K dL_law_1701 rfl ?_
              refine v_iload 12 K dL_law_1702 rfl ?_
              refine v_iload 0 K dL_law_1704 rfl ?_
              refine v_callSWir (As := [.ref (vAd X 0), .int (iZ (r : Int)), .int (iZ (μ (6 + 2 * 0) r))]) (rest := [.int (iZ 1)]) K 3 (c_L_getDelay X.1.2.1 K.2.2.2.2.2.2 _ _ _ μ r (μ (6 + 2 * 0) r) (by omega) (by omega) (by omega)) gL_law_L_getDelay rfl rfl rfl (by decide +kernel) ⟨(Nat.le_of_ble_eq_true rfl), (Nat.le_of_ble_eq_true rfl)⟩ rfl rfl (Nat.le_of_ble_eq_true rfl) dL_law_1706 ⟨(by show kc + 0 ≤ 600258; omega), (by show ks + 0 ≤ 7292426; omega)⟩ ?_
              refine v_aload 5 K dL_law_1709 rfl ?_
              refine v_iconst K dL_law_1711 ?_
              refine v_iload 12 K dL_law_1712 rfl ?_
              refine v_imul K dL_law_1714 ?_
              refine v_iald (c := 49) (4 * r) K isI_49 (by omega) (by omega) dL_law_1715 ?_
              refine v_aload 5 K dL_law_1716 rfl ?_
              refine v_iconst K dL_law_1718 ?_
              refine v_iload 12 K dL_law_1719 rfl ?_
              refine v_imul K dL_law_1721 ?_
              refine v_iconst K dL_law_1722 ?_
              refine v_iadd K dL_law_1723 ?_
              refine v_iald (c := 49) ((4 * r) + 1) K isI_49 (by omega) (by omega) dL_law_1724 ?_
              refine v_aload 5 K dL_law_1725 rfl ?_
              refine v_iconst K dL_law_1727 ?_
              refine v_iload 12 K dL_law_1728 rfl ?_
              refine v_imul K dL_law_1730 ?_
              refine v_iconst K dL_law_1731 ?_
              refine v_iadd K dL_law_1732 ?_
              refine v_iald (c := 49) ((4 * r) + 2) K isI_49 (by omega) (by omega) dL_law_1733 ?_
              refine v_iload 0 K dL_law_1734 rfl ?_
              refine v_callSir (As := [.int (iZ (μ 49 (4 * r))), .int (iZ (μ 49 ((4 * r) + 1))), .int (iZ (μ 49 ((4 * r) + 2))), .int (iZ (μ (6 + 2 * 0) r))]) (rest := [.int (iZ (dly μ r (μ (6 + 2 * 0) r))), .int (iZ 1)]) K 4 (c_L_delay X.1.2.1 K.2.2.2.2.2.2 _ _ _ μ (μ 49 (4 * r)) (μ 49 ((4 * r) + 1)) (μ 49 ((4 * r) + 2)) (μ (6 + 2 * 0) r) (by omega) (by omega) (by omega) (by omega)) gL_law_L_delay rfl rfl rfl (by decide +kernel) ⟨(Nat.le_of_ble_eq_true rfl), (Nat.le_of_ble_eq_true rfl)⟩ rfl rfl (Nat.le_of_ble_eq_true rfl) dL_law_1736 ⟨(by show kc + 0 ≤ 600258; omega), (by show ks + 0 ≤ 7292426; omega)⟩ ?_
              refine v_top (b := (dly μ r (μ (6 + 2 * 0) r))) (congrArg iZ (ldq_dly hrl (by omega))) ?_
              refine v_icmp_ne 1746 K dL_law_1739 (by decide) (by omega) (by omega) (fun c1739 => (by exfalso; omega)) (fun c1739 => ?_)
              refine v_iconst K dL_law_1742 ?_
              refine v_goto 1747 K dL_law_1743 (by decide) ?_
              refine v_iand (z := 1) rfl K dL_law_1747 ?_
              refine v_istore [(7, .int (iZ 1)), (15, .int (iZ (μ (6 + 2 * 0) r))), (0, .ref (σ.1.1)), (1, .ref (vAd X 0)), (2, .int (iZ (s : Int))), (3, .int (iZ (n : Int))), (4, .ref (vAd X 49)), (5, .ref (vAd X 50)), (6, .ref (vAd X 51)), (8, .int (iZ z)), (9, .int (iZ (i : Int))), (13, .int (iZ ((mgF μ 0 q).2))), (14, .int (iZ (r : Int)))] K dL_law_1748 (by decide) rfl ?_
              refine v_iinc 12 [(14, .int (iZ ((r : Int) + 1))), (7, .int (iZ 1)), (15, .int (iZ (μ (6 + 2 * 0) r))), (0, .ref (σ.1.1)), (1, .ref (vAd X 0)), (2, .int (iZ (s : Int))), (3, .int (iZ (n : Int))), (4, .ref (vAd X 49)), (5, .ref (vAd X 50)), (6, .ref (vAd X 51)), (8, .int (iZ z)), (9, .int (iZ (i : Int))), (13, .int (iZ ((mgF μ 0 q).2)))] K dL_law_1750 rfl (by decide) rfl ?_
              refine v_goto 1672 K dL_law_1753 (by decide) ?_
              refine v_sub [3, 4, 5, 6, 7, 8, 9, 1, 10, 11, 12, 0] rfl ?_
              refine v_eq (lv1 := [(0, .ref (σ.1.1)), (1, .ref (vAd X 0)), (2, .int (iZ (s : Int))), (3, .int (iZ (n : Int))), (4, .ref (vAd X 49)), (5, .ref (vAd X 50)), (6, .ref (vAd X 51)), (7, .int (iZ 1)), (8, .int (iZ z)), (9, .int (iZ (i : Int))), (13, .int (iZ ((mgF μ 0 q).2))), (14, .int (iZ (((r + 1) : Nat) : Int)))]) (st1 := []) (v_c0 (v_c0 (v_c0 (v_c0 (v_c0 (v_c0 (v_c0 (v_c0 (v_c0 (v_c0 (v_c0 (v_cI (by first | rfl | omega) rfl)))))))))))) rfl ?_
              exact ih1672 (r + 1) (by omega) (by omega)
        refine v_sub [1, 2, 3, 4, 5, 6, 7, 8, 9, 10, 11, 0] rfl ?_
        refine v_eq (lv1 := [(0, .ref (σ.1.1)), (1, .ref (vAd X 0)), (2, .int (iZ (s : Int))), (3, .int (iZ (n : Int))), (4, .ref (vAd X 49)), (5, .ref (vAd X 50)), (6, .ref (vAd X 51)), (7, .int (iZ 1)), (8, .int (iZ z)), (9, .int (iZ (i : Int))), (13, .int (iZ ((mgF μ 0 q).2))), (14, .int (iZ ((0 : Nat) : Int)))]) (st1 := []) (v_c0 (v_c0 (v_c0 (v_c0 (v_c0 (v_c0 (v_c0 (v_c0 (v_c0 (v_c0 (v_c0 (v_cI (by first | rfl | omega) rfl)))))))))))) rfl ?_
        exact L1672 (9 - 0 + 1) 0 (by omega) (by omega)
      · have hq0 : q < n := by omega
        have hplq := hR.2.2.2.2.2 q hq0
        have hrowq := hst.row9 hq0
        have hchq := hplq.2.2.2.2.1
        have hwcq := hplq.2.2.2.2.2.1
        have hmq := mgF_rng hW (y := 0) q (by omega)
        have hc0 := cst_rng hW (y := 0) (p := q) (by omega) (μ (5 + 2 * 0) q)
        have hldq : μ 50 (4 * q + 3) = μ (37 + q) 2 := hplq.2.2.2.1
        refine v_aload 4 K dL_law_1510 rfl ?_
        refine v_iload_n 2 K dL_law_1512 rfl ?_
        refine v_aload 5 K dL_law_1513 rfl ?_
        refine v_iload_n 3 K dL_law_1515 rfl ?_
        refine v_iload 11 K dL_law_1516 rfl ?_
        refine v_callSir (As := [.ref (vAd X 49), .int (iZ (s : Int)), .ref (vAd X 50), .int (iZ (n : Int)), .int (iZ (q : Int))]) (rest := []) K 5 (c_L_cost X.1.2.1 K.2.2.2.2.2.2 _ _ _ μ s n q hRO hPO (by omega)) gL_law_L_cost rfl rfl rfl (by decide +kernel) ⟨(Nat.le_of_ble_eq_true rfl), (Nat.le_of_ble_eq_true rfl)⟩ rfl rfl (Nat.le_of_ble_eq_true rfl) dL_law_1518 ⟨(by show kc + 0 ≤ 600258; omega), (by show ks + 0 ≤ 7292426; omega)⟩ ?_
        refine v_top (b := (cst μ 0 q (μ (5 + 2 * 0) q))) (by rw [lcs_own hW hL hR hq0]) ?_
        refine v_istore [(15, .int (iZ (cst μ 0 q (μ (5 + 2 * 0) q)))), (0, .ref (σ.1.1)), (1, .ref (vAd X 0)), (2, .int (iZ (s : Int))), (3, .int (iZ (n : Int))), (4, .ref (vAd X 49)), (5, .ref (vAd X 50)), (6, .ref (vAd X 51)), (7, .int (iZ 1)), (8, .int (iZ z)), (9, .int (iZ (i : Int))), (13, .int (iZ ((mgF μ 0 q).2))), (14, .int (iZ (q : Int)))] K dL_law_1521 (by decide) rfl ?_
        refine v_iload 8 K dL_law_1523 rfl ?_
        refine v_aload_n 2 K dL_law_1525 rfl ?_
        refine v_iload 12 K dL_law_1526 rfl ?_
        refine v_callSWir (As := [.ref (vAd X 0), .int (iZ (q : Int))]) (rest := [.int (iZ 1)]) K 2 (c_L_getCost X.1.2.1 K.2.2.2.2.2.2 _ _ _ μ q (by omega) (by omega) (by omega)) gL_law_L_getCost rfl rfl rfl (by decide +kernel) ⟨(Nat.le_of_ble_eq_true rfl), (Nat.le_of_ble_eq_true rfl)⟩ rfl rfl (Nat.le_of_ble_eq_true rfl) dL_law_1528 ⟨(by show kc + 0 ≤ 600258; omega), (by show ks + 0 ≤ 7292426; omega)⟩ ?_
        refine v_iload 0 K dL_law_1531 rfl ?_
        refine v_icmp_ne 1564 K dL_law_1533 (by decide) (by omega) (by omega) (fun c1533 => (by exfalso; omega)) (fun c1533 => ?_)
        refine v_aload_n 2 K dL_law_1536 rfl ?_
        refine v_iload 12 K dL_law_1537 rfl ?_
        refine v_aload_n 2 K dL_law_1539 rfl ?_
        refine v_iload 12 K dL_law_1540 rfl ?_
        refine v_callSWir (As := [.ref (vAd X 0), .int (iZ (q : Int))]) (rest := [.int (iZ (q : Int)), .ref (vAd X 0), .int (iZ 1)]) K 2 (c_L_getChosen X.1.2.1 K.2.2.2.2.2.2 _ _ _ μ q (by omega) (by omega)) gL_law_L_getChosen rfl rfl rfl (by decide +kernel) ⟨(Nat.le_of_ble_eq_true rfl), (Nat.le_of_ble_eq_true rfl)⟩ rfl rfl (Nat.le_of_ble_eq_true rfl) dL_law_1542 ⟨(by show kc + 0 ≤ 600258; omega), (by show ks + 0 ≤ 7292426; omega)⟩ ?_
        refine v_callSWir (As := [.ref (vAd X 0), .int (iZ (q : Int)), .int (iZ (μ (5 + 2 * 0) q))]) (rest := [.int (iZ 1)]) K 3 (c_L_getWay X.1.2.1 K.2.2.2.2.2.2 _ _ _ μ q (μ (5 + 2 * 0) q) (by omega) (by omega) (by omega)) gL_law_L_getWay rfl rfl rfl (by decide +kernel) ⟨(Nat.le_of_ble_eq_true rfl), (Nat.le_of_ble_eq_true rfl)⟩ rfl rfl (Nat.le_of_ble_eq_true rfl) dL_law_1545 ⟨(by show kc + 0 ≤ 600258; omega), (by show ks + 0 ≤ 7292426; omega)⟩ ?_
        refine v_top (b := (μ 50 (4 * q + 2))) (by rw [hplq.2.2.1]) ?_
        refine v_aload 6 K dL_law_1548 rfl ?_
        refine v_iconst K dL_law_1550 ?_
        refine v_iload 12 K dL_law_1551 rfl ?_
        refine v_imul K dL_law_1553 ?_
        refine v_iconst K dL_law_1554 ?_
        refine v_iadd K dL_law_1555 ?_
        refine v_iald (c := 50) ((4 * q) + 2) K isI_50 (by omega) (by omega) dL_law_1556 ?_
        refine v_icmp_ne 1564 K dL_law_1557 (by decide) (by omega) (by omega) (fun c1557 => (by exfalso; omega)) (fun c1557 => ?_)
        refine v_iconst K dL_law_1560 ?_
        refine v_goto 1565 K dL_law_1561 (by decide) ?_
        refine v_iand (z := 1) rfl K dL_law_1565 ?_
        refine v_istore [(7, .int (iZ 1)), (15, .int (iZ (cst μ 0 q (μ (5 + 2 * 0) q)))), (0, .ref (σ.1.1)), (1, .ref (vAd X 0)), (2, .int (iZ (s : Int))), (3, .int (iZ (n : Int))), (4, .ref (vAd X 49)), (5, .ref (vAd X 50)), (6, .ref (vAd X 51)), (8, .int (iZ z)), (9, .int (iZ (i : Int))), (13, .int (iZ ((mgF μ 0 q).2))), (14, .int (iZ (q : Int)))] K dL_law_1566 (by decide) rfl ?_
        refine v_iconst K dL_law_1568 ?_
        refine v_istore [(16, .int (iZ 0)), (7, .int (iZ 1)), (15, .int (iZ (cst μ 0 q (μ (5 + 2 * 0) q)))), (0, .ref (σ.1.1)), (1, .ref (vAd X 0)), (2, .int (iZ (s : Int))), (3, .int (iZ (n : Int))), (4, .ref (vAd X 49)), (5, .ref (vAd X 50)), (6, .ref (vAd X 51)), (8, .int (iZ z)), (9, .int (iZ (i : Int))), (13, .int (iZ ((mgF μ 0 q).2))), (14, .int (iZ (q : Int)))] K dL_law_1569 (by decide) rfl ?_
        have L1571 : ∀ (fuel : Nat) (w : Nat) (hm : 4 - w < fuel) (hw : w ≤ 3) (hgi : 0 ≤ giF μ q (mgF μ 0 q).2 w ∧ giF μ q (mgF μ 0 q).2 w ≤ 800000), vW X 28 1571 kc ks [(0, .ref (σ.1.1)), (1, .ref (vAd X 0)), (2, .int (iZ (s : Int))), (3, .int (iZ (n : Int))), (4, .ref (vAd X 49)), (5, .ref (vAd X 50)), (6, .ref (vAd X 51)), (7, .int (iZ 1)), (8, .int (iZ z)), (9, .int (iZ (i : Int))), (13, .int (iZ (giF μ q (mgF μ 0 q).2 w))), (14, .int (iZ (q : Int))), (15, .int (iZ (cst μ 0 q (μ (5 + 2 * 0) q)))), (16, .int (iZ (w : Int)))] [] μ := by
          intro fuel
          induction fuel with
          | zero => intro w hm; exact absurd hm (Nat.not_lt_zero _)
          | succ fuel ih1571 =>
            intro w hm hw hgi
            refine v_iload 13 K dL_law_1571 rfl ?_
            refine v_iconst K dL_law_1573 ?_
            refine v_icmp_ge 1663 K dL_law_1574 (by decide) (by omega) (by decide) (fun c1574 => ?_) (fun c1574 => ?_)
            · refine v_iinc 11 [(14, .int (iZ ((q : Int) + 1))), (0, .ref (σ.1.1)), (1, .ref (vAd X 0)), (2, .int (iZ (s : Int))), (3, .int (iZ (n : Int))), (4, .ref (vAd X 49)), (5, .ref (vAd X 50)), (6, .ref (vAd X 51)), (7, .int (iZ 1)), (8, .int (iZ z)), (9, .int (iZ (i : Int))), (13, .int (iZ (giF μ q (mgF μ 0 q).2 w))), (15, .int (iZ (cst μ 0 q (μ (5 + 2 * 0) q)))), (16, .int (iZ (w : Int)))] K dL_law_1663 rfl (by decide) rfl ?_
              refine v_goto 1504 K dL_law_1666 (by decide) ?_
              refine v_sub [1, 2, 3, 4, 5, 6, 7, 8, 9, 10, 11, 0] rfl ?_
              refine v_eq (lv1 := [(0, .ref (σ.1.1)), (1, .ref (vAd X 0)), (2, .int (iZ (s : Int))), (3, .int (iZ (n : Int))), (4, .ref (vAd X 49)), (5, .ref (vAd X 50)), (6, .ref (vAd X 51)), (7, .int (iZ 1)), (8, .int (iZ z)), (9, .int (iZ (i : Int))), (13, .int (iZ ((mgF μ 0 (q + 1)).2))), (14, .int (iZ (((q + 1) : Nat) : Int)))]) (st1 := []) (v_c0 (v_c0 (v_c0 (v_c0 (v_c0 (v_c0 (v_c0 (v_c0 (v_c0 (v_c0 (v_cI (by rw [← giF_mg hW hR hq0, show 3 = w by omega]) (v_cI (by first | rfl | omega) rfl)))))))))))) rfl ?_
              exact ih1504 (q + 1) (by omega) (by omega)
            · have hwy := hst.way9 hq0 (show w < 3 by omega)
              have hc1 := cst_rng hW (y := 0) (p := q) (by omega) (w : Int)
              refine v_aload 4 K dL_law_1577 rfl ?_
              refine v_iload_n 2 K dL_law_1579 rfl ?_
              refine v_aload 5 K dL_law_1580 rfl ?_
              refine v_iload_n 3 K dL_law_1582 rfl ?_
              refine v_iload 11 K dL_law_1583 rfl ?_
              refine v_aload 6 K dL_law_1585 rfl ?_
              refine v_iconst K dL_law_1587 ?_
              refine v_iload 11 K dL_law_1588 rfl ?_
              refine v_imul K dL_law_1590 ?_
              refine v_iload 13 K dL_law_1591 rfl ?_
              refine v_iadd K dL_law_1593 ?_
              refine v_iald (c := 51) ((3 * q) + w) K isI_51 (by omega) (by omega) dL_law_1594 ?_
              refine v_callSir (As := [.ref (vAd X 49), .int (iZ (s : Int)), .ref (vAd X 50), .int (iZ (n : Int)), .int (iZ (q : Int)), .int (iZ (μ 51 ((3 * q) + w)))]) (rest := []) K 6 (c_L_costBy X.1.2.1 K.2.2.2.2.2.2 _ _ _ μ s n q (μ 51 ((3 * q) + w)) hRO hPO (by omega) (by omega)) gL_law_L_costBy rfl rfl rfl (by decide +kernel) ⟨(Nat.le_of_ble_eq_true rfl), (Nat.le_of_ble_eq_true rfl)⟩ rfl rfl (Nat.le_of_ble_eq_true rfl) dL_law_1595 ⟨(by show kc + 0 ≤ 600258; omega), (by show ks + 0 ≤ 7292426; omega)⟩ ?_
              refine v_top (b := (cst μ 0 q (w : Int))) (by rw [lcs_by hW hL hR hq0 (by omega)]) ?_
              refine v_istore [(17, .int (iZ (cst μ 0 q (w : Int)))), (0, .ref (σ.1.1)), (1, .ref (vAd X 0)), (2, .int (iZ (s : Int))), (3, .int (iZ (n : Int))), (4, .ref (vAd X 49)), (5, .ref (vAd X 50)), (6, .ref (vAd X 51)), (7, .int (iZ 1)), (8, .int (iZ z)), (9, .int (iZ (i : Int))), (13, .int (iZ (giF μ q (mgF μ 0 q).2 w))), (14, .int (iZ (q : Int))), (15, .int (iZ (cst μ 0 q (μ (5 + 2 * 0) q)))), (16, .int (iZ (w : Int)))] K dL_law_1598 (by decide) rfl ?_
              refine v_aload 6 K dL_law_1600 rfl ?_
              refine v_iconst K dL_law_1602 ?_
              refine v_iload 12 K dL_law_1603 rfl ?_
              refine v_imul K dL_law_1605 ?_
              refine v_iconst K dL_law_1606 ?_
              refine v_iadd K dL_law_1607 ?_
              refine v_iald (c := 50) ((4 * q) + 3) K isI_50 (by omega) (by omega) dL_law_1608 ?_
              refine v_if_ne 1630 K dL_law_1609 (by decide) (by omega) (fun c1609 => ?_) (fun c1609 => ?_)
              · refine v_iload 11 K dL_law_1630 rfl ?_
                refine v_istore [(13, .int (iZ (giF μ q (mgF μ 0 q).2 w))), (17, .int (iZ (cst μ 0 q (w : Int)))), (0, .ref (σ.1.1)), (1, .ref (vAd X 0)), (2, .int (iZ (s : Int))), (3, .int (iZ (n : Int))), (4, .ref (vAd X 49)), (5, .ref (vAd X 50)), (6, .ref (vAd X 51)), (7, .int (iZ 1)), (8, .int (iZ z)), (9, .int (iZ (i : Int))), (14, .int (iZ (q : Int))), (15, .int (iZ (cst μ 0 q (μ (5 + 2 * 0) q)))), (16, .int (iZ (w : Int)))] K dL_law_1632 (by decide) rfl ?_
                refine v_iload 9 K dL_law_1634 rfl ?_
                refine v_aload_n 3 K dL_law_1636 rfl ?_
                refine v_iload 12 K dL_law_1637 rfl ?_
                refine v_iload 14 K dL_law_1639 rfl ?_
                refine v_callSWir (As := [.ref (vAd X 0), .int (iZ (q : Int)), .int (iZ (w : Int))]) (rest := [.int (iZ 1)]) K 3 (c_L_costOf X.1.2.1 K.2.2.2.2.2.2 _ _ _ μ q (w : Int) (by omega) (by omega) (by omega) (by omega)) gL_law_L_costOf rfl rfl rfl (by decide +kernel) ⟨(Nat.le_of_ble_eq_true rfl), (Nat.le_of_ble_eq_true rfl)⟩ rfl rfl (Nat.le_of_ble_eq_true rfl) dL_law_1641 ⟨(by show kc + 0 ≤ 600258; omega), (by show ks + 0 ≤ 7292426; omega)⟩ ?_
                refine v_iload 1 K dL_law_1644 rfl ?_
                refine v_icmp_ne 1653 K dL_law_1646 (by decide) (by omega) (by omega) (fun c1646 => (by exfalso; omega)) (fun c1646 => ?_)
                refine v_iconst K dL_law_1649 ?_
                refine v_goto 1654 K dL_law_1650 (by decide) ?_
                refine v_iand (z := 1) rfl K dL_law_1654 ?_
                refine v_istore [(7, .int (iZ 1)), (13, .int (iZ (giF μ q (mgF μ 0 q).2 w))), (17, .int (iZ (cst μ 0 q (w : Int)))), (0, .ref (σ.1.1)), (1, .ref (vAd X 0)), (2, .int (iZ (s : Int))), (3, .int (iZ (n : Int))), (4, .ref (vAd X 49)), (5, .ref (vAd X 50)), (6, .ref (vAd X 51)), (8, .int (iZ z)), (9, .int (iZ (i : Int))), (14, .int (iZ (q : Int))), (15, .int (iZ (cst μ 0 q (μ (5 + 2 * 0) q)))), (16, .int (iZ (w : Int)))] K dL_law_1655 (by decide) rfl ?_
                refine v_iinc 14 [(16, .int (iZ ((w : Int) + 1))), (7, .int (iZ 1)), (13, .int (iZ (giF μ q (mgF μ 0 q).2 w))), (17, .int (iZ (cst μ 0 q (w : Int)))), (0, .ref (σ.1.1)), (1, .ref (vAd X 0)), (2, .int (iZ (s : Int))), (3, .int (iZ (n : Int))), (4, .ref (vAd X 49)), (5, .ref (vAd X 50)), (6, .ref (vAd X 51)), (8, .int (iZ z)), (9, .int (iZ (i : Int))), (14, .int (iZ (q : Int))), (15, .int (iZ (cst μ 0 q (μ (5 + 2 * 0) q))))] K dL_law_1657 rfl (by decide) rfl ?_
                refine v_goto 1571 K dL_law_1660 (by decide) ?_
                refine v_sub [4, 5, 6, 7, 8, 9, 10, 1, 11, 12, 2, 13, 14, 0] rfl ?_
                refine v_eq (lv1 := [(0, .ref (σ.1.1)), (1, .ref (vAd X 0)), (2, .int (iZ (s : Int))), (3, .int (iZ (n : Int))), (4, .ref (vAd X 49)), (5, .ref (vAd X 50)), (6, .ref (vAd X 51)), (7, .int (iZ 1)), (8, .int (iZ z)), (9, .int (iZ (i : Int))), (13, .int (iZ (giF μ q (mgF μ 0 q).2 (w + 1)))), (14, .int (iZ (q : Int))), (15, .int (iZ (cst μ 0 q (μ (5 + 2 * 0) q)))), (16, .int (iZ (((w + 1) : Nat) : Int)))]) (st1 := []) (v_c0 (v_c0 (v_c0 (v_c0 (v_c0 (v_c0 (v_c0 (v_c0 (v_c0 (v_c0 (v_cI (by first | (rw [giF_y ⟨by omega, by omega⟩]; done) | (rw [giF_n (fun z9 => by omega)]; done)) (v_c0 (v_c0 (v_cI (by first | rfl | omega) rfl)))))))))))))) rfl ?_
                exact ih1571 (w + 1) (by omega) (by omega) (by first | (rw [giF_y ⟨by omega, by omega⟩]; omega) | (rw [giF_n (fun z9 => by omega)]; omega))
              · refine v_iload 13 K dL_law_1612 rfl ?_
                refine v_iload 0 K dL_law_1614 rfl ?_
                refine v_isub K dL_law_1616 ?_
                refine v_iload 11 K dL_law_1617 rfl ?_
                refine v_icmp_le 1630 K dL_law_1619 (by decide) (by omega) (by omega) (fun c1619 => ?_) (fun c1619 => ?_)
                · refine v_iload 11 K dL_law_1630 rfl ?_
                  refine v_istore [(13, .int (iZ (giF μ q (mgF μ 0 q).2 w))), (17, .int (iZ (cst μ 0 q (w : Int)))), (0, .ref (σ.1.1)), (1, .ref (vAd X 0)), (2, .int (iZ (s : Int))), (3, .int (iZ (n : Int))), (4, .ref (vAd X 49)), (5, .ref (vAd X 50)), (6, .ref (vAd X 51)), (7, .int (iZ 1)), (8, .int (iZ z)), (9, .int (iZ (i : Int))), (14, .int (iZ (q : Int))), (15, .int (iZ (cst μ 0 q (μ (5 + 2 * 0) q)))), (16, .int (iZ (w : Int)))] K dL_law_1632 (by decide) rfl ?_
                  refine v_iload 9 K dL_law_1634 rfl ?_
                  refine v_aload_n 3 K dL_law_1636 rfl ?_
                  refine v_iload 12 K dL_law_1637 rfl ?_
                  refine v_iload 14 K dL_law_1639 rfl ?_
                  refine v_callSWir (As := [.ref (vAd X 0), .int (iZ (q : Int)), .int (iZ (w : Int))]) (rest := [.int (iZ 1)]) K 3 (c_L_costOf X.1.2.1 K.2.2.2.2.2.2 _ _ _ μ q (w : Int) (by omega) (by omega) (by omega) (by omega)) gL_law_L_costOf rfl rfl rfl (by decide +kernel) ⟨(Nat.le_of_ble_eq_true rfl), (Nat.le_of_ble_eq_true rfl)⟩ rfl rfl (Nat.le_of_ble_eq_true rfl) dL_law_1641 ⟨(by show kc + 0 ≤ 600258; omega), (by show ks + 0 ≤ 7292426; omega)⟩ ?_
                  refine v_iload 1 K dL_law_1644 rfl ?_
                  refine v_icmp_ne 1653 K dL_law_1646 (by decide) (by omega) (by omega) (fun c1646 => (by exfalso; omega)) (fun c1646 => ?_)
                  refine v_iconst K dL_law_1649 ?_
                  refine v_goto 1654 K dL_law_1650 (by decide) ?_
                  refine v_iand (z := 1) rfl K dL_law_1654 ?_
                  refine v_istore [(7, .int (iZ 1)), (13, .int (iZ (giF μ q (mgF μ 0 q).2 w))), (17, .int (iZ (cst μ 0 q (w : Int)))), (0, .ref (σ.1.1)), (1, .ref (vAd X 0)), (2, .int (iZ (s : Int))), (3, .int (iZ (n : Int))), (4, .ref (vAd X 49)), (5, .ref (vAd X 50)), (6, .ref (vAd X 51)), (8, .int (iZ z)), (9, .int (iZ (i : Int))), (14, .int (iZ (q : Int))), (15, .int (iZ (cst μ 0 q (μ (5 + 2 * 0) q)))), (16, .int (iZ (w : Int)))] K dL_law_1655 (by decide) rfl ?_
                  refine v_iinc 14 [(16, .int (iZ ((w : Int) + 1))), (7, .int (iZ 1)), (13, .int (iZ (giF μ q (mgF μ 0 q).2 w))), (17, .int (iZ (cst μ 0 q (w : Int)))), (0, .ref (σ.1.1)), (1, .ref (vAd X 0)), (2, .int (iZ (s : Int))), (3, .int (iZ (n : Int))), (4, .ref (vAd X 49)), (5, .ref (vAd X 50)), (6, .ref (vAd X 51)), (8, .int (iZ z)), (9, .int (iZ (i : Int))), (14, .int (iZ (q : Int))), (15, .int (iZ (cst μ 0 q (μ (5 + 2 * 0) q))))] K dL_law_1657 rfl (by decide) rfl ?_
                  refine v_goto 1571 K dL_law_1660 (by decide) ?_
                  refine v_sub [4, 5, 6, 7, 8, 9, 10, 1, 11, 12, 2, 13, 14, 0] rfl ?_
                  refine v_eq (lv1 := [(0, .ref (σ.1.1)), (1, .ref (vAd X 0)), (2, .int (iZ (s : Int))), (3, .int (iZ (n : Int))), (4, .ref (vAd X 49)), (5, .ref (vAd X 50)), (6, .ref (vAd X 51)), (7, .int (iZ 1)), (8, .int (iZ z)), (9, .int (iZ (i : Int))), (13, .int (iZ (giF μ q (mgF μ 0 q).2 (w + 1)))), (14, .int (iZ (q : Int))), (15, .int (iZ (cst μ 0 q (μ (5 + 2 * 0) q)))), (16, .int (iZ (((w + 1) : Nat) : Int)))]) (st1 := []) (v_c0 (v_c0 (v_c0 (v_c0 (v_c0 (v_c0 (v_c0 (v_c0 (v_c0 (v_c0 (v_cI (by first | (rw [giF_y ⟨by omega, by omega⟩]; done) | (rw [giF_n (fun z9 => by omega)]; done)) (v_c0 (v_c0 (v_cI (by first | rfl | omega) rfl)))))))))))))) rfl ?_
                  exact ih1571 (w + 1) (by omega) (by omega) (by first | (rw [giF_y ⟨by omega, by omega⟩]; omega) | (rw [giF_n (fun z9 => by omega)]; omega))
                · refine v_iload 13 K dL_law_1622 rfl ?_
                  refine v_iload 0 K dL_law_1624 rfl ?_
                  refine v_isub K dL_law_1626 ?_
                  refine v_goto 1632 K dL_law_1627 (by decide) ?_
                  refine v_istore [(13, .int (iZ ((cst μ 0 q (μ (5 + 2 * 0) q)) - (cst μ 0 q (w : Int))))), (17, .int (iZ (cst μ 0 q (w : Int)))), (0, .ref (σ.1.1)), (1, .ref (vAd X 0)), (2, .int (iZ (s : Int))), (3, .int (iZ (n : Int))), (4, .ref (vAd X 49)), (5, .ref (vAd X 50)), (6, .ref (vAd X 51)), (7, .int (iZ 1)), (8, .int (iZ z)), (9, .int (iZ (i : Int))), (14, .int (iZ (q : Int))), (15, .int (iZ (cst μ 0 q (μ (5 + 2 * 0) q)))), (16, .int (iZ (w : Int)))] K dL_law_1632 (by decide) rfl ?_
                  refine v_iload 9 K dL_law_1634 rfl ?_
                  refine v_aload_n 3 K dL_law_1636 rfl ?_
                  refine v_iload 12 K dL_law_1637 rfl ?_
                  refine v_iload 14 K dL_law_1639 rfl ?_
                  refine v_callSWir (As := [.ref (vAd X 0), .int (iZ (q : Int)), .int (iZ (w : Int))]) (rest := [.int (iZ 1)]) K 3 (c_L_costOf X.1.2.1 K.2.2.2.2.2.2 _ _ _ μ q (w : Int) (by omega) (by omega) (by omega) (by omega)) gL_law_L_costOf rfl rfl rfl (by decide +kernel) ⟨(Nat.le_of_ble_eq_true rfl), (Nat.le_of_ble_eq_true rfl)⟩ rfl rfl (Nat.le_of_ble_eq_true rfl) dL_law_1641 ⟨(by show kc + 0 ≤ 600258; omega), (by show ks + 0 ≤ 7292426; omega)⟩ ?_
                  refine v_iload 1 K dL_law_1644 rfl ?_
                  refine v_icmp_ne 1653 K dL_law_1646 (by decide) (by omega) (by omega) (fun c1646 => (by exfalso; omega)) (fun c1646 => ?_)
                  refine v_iconst K dL_law_1649 ?_
                  refine v_goto 1654 K dL_law_1650 (by decide) ?_
                  refine v_iand (z := 1) rfl K dL_law_1654 ?_
                  refine v_istore [(7, .int (iZ 1)), (13, .int (iZ ((cst μ 0 q (μ (5 + 2 * 0) q)) - (cst μ 0 q (w : Int))))), (17, .int (iZ (cst μ 0 q (w : Int)))), (0, .ref (σ.1.1)), (1, .ref (vAd X 0)), (2, .int (iZ (s : Int))), (3, .int (iZ (n : Int))), (4, .ref (vAd X 49)), (5, .ref (vAd X 50)), (6, .ref (vAd X 51)), (8, .int (iZ z)), (9, .int (iZ (i : Int))), (14, .int (iZ (q : Int))), (15, .int (iZ (cst μ 0 q (μ (5 + 2 * 0) q)))), (16, .int (iZ (w : Int)))] K dL_law_1655 (by decide) rfl ?_
                  refine v_iinc 14 [(16, .int (iZ ((w : Int) + 1))), (7, .int (iZ 1)), (13, .int (iZ ((cst μ 0 q (μ (5 + 2 * 0) q)) - (cst μ 0 q (w : Int))))), (17, .int (iZ (cst μ 0 q (w : Int)))), (0, .ref (σ.1.1)), (1, .ref (vAd X 0)), (2, .int (iZ (s : Int))), (3, .int (iZ (n : Int))), (4, .ref (vAd X 49)), (5, .ref (vAd X 50)), (6, .ref (vAd X 51)), (8, .int (iZ z)), (9, .int (iZ (i : Int))), (14, .int (iZ (q : Int))), (15, .int (iZ (cst μ 0 q (μ (5 + 2 * 0) q))))] K dL_law_1657 rfl (by decide) rfl ?_
                  refine v_goto 1571 K dL_law_1660 (by decide) ?_
                  refine v_sub [4, 5, 6, 7, 8, 9, 10, 1, 11, 12, 2, 13, 14, 0] rfl ?_
                  refine v_eq (lv1 := [(0, .ref (σ.1.1)), (1, .ref (vAd X 0)), (2, .int (iZ (s : Int))), (3, .int (iZ (n : Int))), (4, .ref (vAd X 49)), (5, .ref (vAd X 50)), (6, .ref (vAd X 51)), (7, .int (iZ 1)), (8, .int (iZ z)), (9, .int (iZ (i : Int))), (13, .int (iZ (giF μ q (mgF μ 0 q).2 (w + 1)))), (14, .int (iZ (q : Int))), (15, .int (iZ (cst μ 0 q (μ (5 + 2 * 0) q)))), (16, .int (iZ (((w + 1) : Nat) : Int)))]) (st1 := []) (v_c0 (v_c0 (v_c0 (v_c0 (v_c0 (v_c0 (v_c0 (v_c0 (v_c0 (v_c0 (v_cI (by first | (rw [giF_y ⟨by omega, by omega⟩]; done) | (rw [giF_n (fun z9 => by omega)]; done)) (v_c0 (v_c0 (v_cI (by first | rfl | omega) rfl)))))))))))))) rfl ?_
                  exact ih1571 (w + 1) (by omega) (by omega) (by first | (rw [giF_y ⟨by omega, by omega⟩]; omega) | (rw [giF_n (fun z9 => by omega)]; omega))
        refine v_sub [3, 4, 5, 6, 7, 8, 9, 1, 10, 11, 12, 13, 2, 0] rfl ?_
        refine v_eq (lv1 := [(0, .ref (σ.1.1)), (1, .ref (vAd X 0)), (2, .int (iZ (s : Int))), (3, .int (iZ (n : Int))), (4, .ref (vAd X 49)), (5, .ref (vAd X 50)), (6, .ref (vAd X 51)), (7, .int (iZ 1)), (8, .int (iZ z)), (9, .int (iZ (i : Int))), (13, .int (iZ (giF μ q (mgF μ 0 q).2 0))), (14, .int (iZ (q : Int))), (15, .int (iZ (cst μ 0 q (μ (5 + 2 * 0) q)))), (16, .int (iZ ((0 : Nat) : Int)))]) (st1 := []) (v_c0 (v_c0 (v_c0 (v_c0 (v_c0 (v_c0 (v_c0 (v_c0 (v_c0 (v_c0 (v_cI rfl (v_c0 (v_c0 (v_cI (by first | rfl | omega) rfl)))))))))))))) rfl ?_
        exact L1571 (4 - 0 + 1) 0 (by omega) (by omega) (by show 0 ≤ (mgF μ 0 q).2 ∧ (mgF μ 0 q).2 ≤ 800000; omega)
  refine v_sub [2, 3, 4, 5, 6, 7, 8, 9, 10, 11, 1, 0] rfl ?_
  refine v_eq (lv1 := [(0, .ref (σ.1.1)), (1, .ref (vAd X 0)), (2, .int (iZ (s : Int))), (3, .int (iZ (n : Int))), (4, .ref (vAd X 49)), (5, .ref (vAd X 50)), (6, .ref (vAd X 51)), (7, .int (iZ 1)), (8, .int (iZ z)), (9, .int (iZ (i : Int))), (13, .int (iZ ((mgF μ 0 0).2))), (14, .int (iZ ((0 : Nat) : Int)))]) (st1 := []) (v_c0 (v_c0 (v_c0 (v_c0 (v_c0 (v_c0 (v_c0 (v_c0 (v_c0 (v_c0 (v_cI rfl (v_cI (by first | rfl | omega) rfl)))))))))))) rfl ?_
  exact L1504 (7 - 0 + 1) 0 (by omega) (by omega)
