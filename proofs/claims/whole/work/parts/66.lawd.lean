theorem dq_W_law_1722 : decode code 1722 = .ok (.invokevirtual 131, 3) := by decide +kernel
theorem dq_W_law_1725 : decode code 1725 = .ok (.lcmp, 1) := by decide +kernel
theorem dq_W_law_1726 : decode code 1726 = .ok (.ifCond .eq 28, 3) := by decide +kernel
theorem dq_W_law_1729 : decode code 1729 = .ok (.iconst 0, 1) := by decide +kernel
theorem dq_W_law_1730 : decode code 1730 = .ok (.ireturn, 1) := by decide +kernel
theorem dq_W_law_1731 : decode code 1731 = .ok (.aload_n 1, 1) := by decide +kernel
theorem dq_W_law_1732 : decode code 1732 = .ok (.aload_n 0, 1) := by decide +kernel
theorem dq_W_law_1733 : decode code 1733 = .ok (.iload_n 3, 1) := by decide +kernel
theorem dq_W_law_1734 : decode code 1734 = .ok (.iconst 1, 1) := by decide +kernel
theorem dq_W_law_1735 : decode code 1735 = .ok (.iadd, 1) := by decide +kernel
theorem dq_W_law_1736 : decode code 1736 = .ok (.iaload, 1) := by decide +kernel
theorem dq_W_law_1737 : decode code 1737 = .ok (.invokevirtual 132, 3) := by decide +kernel
theorem dq_W_law_1740 : decode code 1740 = .ok (.aload_n 2, 1) := by decide +kernel
theorem dq_W_law_1741 : decode code 1741 = .ok (.aload_n 0, 1) := by decide +kernel
theorem dq_W_law_1742 : decode code 1742 = .ok (.iload_n 3, 1) := by decide +kernel
theorem dq_W_law_1743 : decode code 1743 = .ok (.iconst 1, 1) := by decide +kernel
theorem dq_W_law_1744 : decode code 1744 = .ok (.iadd, 1) := by decide +kernel
theorem dq_W_law_1745 : decode code 1745 = .ok (.iaload, 1) := by decide +kernel
theorem dq_W_law_1746 : decode code 1746 = .ok (.invokevirtual 135, 3) := by decide +kernel
theorem dq_W_law_1749 : decode code 1749 = .ok (.if_icmp .eq 5, 3) := by decide +kernel
theorem dq_W_law_1752 : decode code 1752 = .ok (.iconst 0, 1) := by decide +kernel
theorem dq_W_law_1753 : decode code 1753 = .ok (.ireturn, 1) := by decide +kernel
theorem dq_W_law_1754 : decode code 1754 = .ok (.iinc 3 11, 3) := by decide +kernel
theorem dq_W_law_1757 : decode code 1757 = .ok (.goto (-1739), 3) := by decide +kernel
theorem dq_W_law_1760 : decode code 1760 = .ok (.iconst 1, 1) := by decide +kernel
theorem dq_W_law_1761 : decode code 1761 = .ok (.ireturn, 1) := by decide +kernel
