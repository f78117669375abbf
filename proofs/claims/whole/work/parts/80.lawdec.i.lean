theorem dL_law_1654 : decode cL_law 1654 = .ok (.iaload, 1) := by decide +kernel
theorem dL_law_1655 : decode cL_law 1655 = .ok (.aload_n 0, 1) := by decide +kernel
theorem dL_law_1656 : decode cL_law 1656 = .ok (.iload_n 3, 1) := by decide +kernel
theorem dL_law_1657 : decode cL_law 1657 = .ok (.iconst 2, 1) := by decide +kernel
theorem dL_law_1658 : decode cL_law 1658 = .ok (.iadd, 1) := by decide +kernel
theorem dL_law_1659 : decode cL_law 1659 = .ok (.iaload, 1) := by decide +kernel
theorem dL_law_1660 : decode cL_law 1660 = .ok (.invokevirtual 186, 3) := by decide +kernel
theorem dL_law_1663 : decode cL_law 1663 = .ok (.aload_n 2, 1) := by decide +kernel
theorem dL_law_1664 : decode cL_law 1664 = .ok (.aload_n 0, 1) := by decide +kernel
theorem dL_law_1665 : decode cL_law 1665 = .ok (.iload_n 3, 1) := by decide +kernel
theorem dL_law_1666 : decode cL_law 1666 = .ok (.iconst 1, 1) := by decide +kernel
theorem dL_law_1667 : decode cL_law 1667 = .ok (.iadd, 1) := by decide +kernel
theorem dL_law_1668 : decode cL_law 1668 = .ok (.iaload, 1) := by decide +kernel
theorem dL_law_1669 : decode cL_law 1669 = .ok (.aload_n 0, 1) := by decide +kernel
theorem dL_law_1670 : decode cL_law 1670 = .ok (.iload_n 3, 1) := by decide +kernel
theorem dL_law_1671 : decode cL_law 1671 = .ok (.iconst 2, 1) := by decide +kernel
theorem dL_law_1672 : decode cL_law 1672 = .ok (.iadd, 1) := by decide +kernel
theorem dL_law_1673 : decode cL_law 1673 = .ok (.iaload, 1) := by decide +kernel
theorem dL_law_1674 : decode cL_law 1674 = .ok (.invokevirtual 189, 3) := by decide +kernel
theorem dL_law_1677 : decode cL_law 1677 = .ok (.if_icmp .eq 51, 3) := by decide +kernel
theorem dL_law_1680 : decode cL_law 1680 = .ok (.iconst 0, 1) := by decide +kernel
theorem dL_law_1681 : decode cL_law 1681 = .ok (.ireturn, 1) := by decide +kernel
theorem dL_law_1682 : decode cL_law 1682 = .ok (.aload_n 1, 1) := by decide +kernel
theorem dL_law_1683 : decode cL_law 1683 = .ok (.aload_n 0, 1) := by decide +kernel
theorem dL_law_1684 : decode cL_law 1684 = .ok (.iload_n 3, 1) := by decide +kernel
theorem dL_law_1685 : decode cL_law 1685 = .ok (.iconst 1, 1) := by decide +kernel
theorem dL_law_1686 : decode cL_law 1686 = .ok (.iadd, 1) := by decide +kernel
theorem dL_law_1687 : decode cL_law 1687 = .ok (.iaload, 1) := by decide +kernel
theorem dL_law_1688 : decode cL_law 1688 = .ok (.invokevirtual 190, 3) := by decide +kernel
theorem dL_law_1691 : decode cL_law 1691 = .ok (.aload_n 2, 1) := by decide +kernel
theorem dL_law_1692 : decode cL_law 1692 = .ok (.aload_n 0, 1) := by decide +kernel
theorem dL_law_1693 : decode cL_law 1693 = .ok (.iload_n 3, 1) := by decide +kernel
theorem dL_law_1694 : decode cL_law 1694 = .ok (.iconst 1, 1) := by decide +kernel
theorem dL_law_1695 : decode cL_law 1695 = .ok (.iadd, 1) := by decide +kernel
theorem dL_law_1696 : decode cL_law 1696 = .ok (.iaload, 1) := by decide +kernel
theorem dL_law_1697 : decode cL_law 1697 = .ok (.invokevirtual 193, 3) := by decide +kernel
theorem dL_law_1700 : decode cL_law 1700 = .ok (.if_icmp .eq 28, 3) := by decide +kernel
theorem dL_law_1703 : decode cL_law 1703 = .ok (.iconst 0, 1) := by decide +kernel
theorem dL_law_1704 : decode cL_law 1704 = .ok (.ireturn, 1) := by decide +kernel
theorem dL_law_1705 : decode cL_law 1705 = .ok (.aload_n 1, 1) := by decide +kernel
theorem dL_law_1706 : decode cL_law 1706 = .ok (.aload_n 0, 1) := by decide +kernel
theorem dL_law_1707 : decode cL_law 1707 = .ok (.iload_n 3, 1) := by decide +kernel
theorem dL_law_1708 : decode cL_law 1708 = .ok (.iconst 1, 1) := by decide +kernel
theorem dL_law_1709 : decode cL_law 1709 = .ok (.iadd, 1) := by decide +kernel
theorem dL_law_1710 : decode cL_law 1710 = .ok (.iaload, 1) := by decide +kernel
theorem dL_law_1711 : decode cL_law 1711 = .ok (.invokevirtual 194, 3) := by decide +kernel
theorem dL_law_1714 : decode cL_law 1714 = .ok (.aload_n 2, 1) := by decide +kernel
theorem dL_law_1715 : decode cL_law 1715 = .ok (.aload_n 0, 1) := by decide +kernel
theorem dL_law_1716 : decode cL_law 1716 = .ok (.iload_n 3, 1) := by decide +kernel
theorem dL_law_1717 : decode cL_law 1717 = .ok (.iconst 1, 1) := by decide +kernel
theorem dL_law_1718 : decode cL_law 1718 = .ok (.iadd, 1) := by decide +kernel
theorem dL_law_1719 : decode cL_law 1719 = .ok (.iaload, 1) := by decide +kernel
theorem dL_law_1720 : decode cL_law 1720 = .ok (.invokevirtual 197, 3) := by decide +kernel
theorem dL_law_1723 : decode cL_law 1723 = .ok (.if_icmp .eq 5, 3) := by decide +kernel
theorem dL_law_1726 : decode cL_law 1726 = .ok (.iconst 0, 1) := by decide +kernel
theorem dL_law_1727 : decode cL_law 1727 = .ok (.ireturn, 1) := by decide +kernel
theorem dL_law_1728 : decode cL_law 1728 = .ok (.iinc 3 6, 3) := by decide +kernel
theorem dL_law_1731 : decode cL_law 1731 = .ok (.goto (-1713), 3) := by decide +kernel
theorem dL_law_1734 : decode cL_law 1734 = .ok (.iconst 1, 1) := by decide +kernel
theorem dL_law_1735 : decode cL_law 1735 = .ok (.ireturn, 1) := by decide +kernel
