def tL_17 : List (Nat × Instr × Nat) := [(1615, .iconst 1, 1), (1616, .iadd, 1), (1617, .iaload, 1), (1618, .aload_n 0, 1), (1619, .iload 4, 2), (1621, .iconst 2, 1), (1622, .iadd, 1), (1623, .iaload, 1), (1624, .aload_n 3, 1), (1625, .invokestatic 199, 3), (1628, .istore 5, 2), (1630, .aload_n 2, 1), (1631, .aload_n 0, 1), (1632, .iload 4, 2), (1634, .iconst 1, 1), (1635, .iadd, 1), (1636, .iaload, 1), (1637, .aload_n 0, 1), (1638, .iload 4, 2), (1640, .iconst 2, 1), (1641, .iadd, 1), (1642, .iaload, 1), (1643, .invokevirtual 201, 3), (1646, .istore 6, 2), (1648, .aload_n 2, 1), (1649, .invokevirtual 118, 3), (1652, .iload 5, 2), (1654, .if_icmp .eq 5, 3), (1657, .iconst 0, 1), (1658, .ireturn, 1)]
set_option maxRecDepth 100000 in
theorem tL_17_ok : tL_17.all (fun q => decide (decode cL_law q.1 = .ok (q.2.1, q.2.2))) = true := by decide +kernel
set_option maxRecDepth 100000 in
theorem dL_law_1615 : decode cL_law 1615 = .ok (.iconst 1, 1) := of_decide_eq_true (List.all_eq_true.mp tL_17_ok (1615, .iconst 1, 1) (List.mem_of_getElem? (i := 0) rfl))
set_option maxRecDepth 100000 in
theorem dL_law_1616 : decode cL_law 1616 = .ok (.iadd, 1) := of_decide_eq_true (List.all_eq_true.mp tL_17_ok (1616, .iadd, 1) (List.mem_of_getElem? (i := 1) rfl))
set_option maxRecDepth 100000 in
theorem dL_law_1617 : decode cL_law 1617 = .ok (.iaload, 1) := of_decide_eq_true (List.all_eq_true.mp tL_17_ok (1617, .iaload, 1) (List.mem_of_getElem? (i := 2) rfl))
set_option maxRecDepth 100000 in
theorem dL_law_1618 : decode cL_law 1618 = .ok (.aload_n 0, 1) := of_decide_eq_true (List.all_eq_true.mp tL_17_ok (1618, .aload_n 0, 1) (List.mem_of_getElem? (i := 3) rfl))
set_option maxRecDepth 100000 in
theorem dL_law_1619 : decode cL_law 1619 = .ok (.iload 4, 2) := of_decide_eq_true (List.all_eq_true.mp tL_17_ok (1619, .iload 4, 2) (List.mem_of_getElem? (i := 4) rfl))
set_option maxRecDepth 100000 in
theorem dL_law_1621 : decode cL_law 1621 = .ok (.iconst 2, 1) := of_decide_eq_true (List.all_eq_true.mp tL_17_ok (1621, .iconst 2, 1) (List.mem_of_getElem? (i := 5) rfl))
set_option maxRecDepth 100000 in
theorem dL_law_1622 : decode cL_law 1622 = .ok (.iadd, 1) := of_decide_eq_true (List.all_eq_true.mp tL_17_ok (1622, .iadd, 1) (List.mem_of_getElem? (i := 6) rfl))
set_option maxRecDepth 100000 in
theorem dL_law_1623 : decode cL_law 1623 = .ok (.iaload, 1) := of_decide_eq_true (List.all_eq_true.mp tL_17_ok (1623, .iaload, 1) (List.mem_of_getElem? (i := 7) rfl))
set_option maxRecDepth 100000 in
theorem dL_law_1624 : decode cL_law 1624 = .ok (.aload_n 3, 1) := of_decide_eq_true (List.all_eq_true.mp tL_17_ok (1624, .aload_n 3, 1) (List.mem_of_getElem? (i := 8) rfl))
set_option maxRecDepth 100000 in
theorem dL_law_1625 : decode cL_law 1625 = .ok (.invokestatic 199, 3) := of_decide_eq_true (List.all_eq_true.mp tL_17_ok (1625, .invokestatic 199, 3) (List.mem_of_getElem? (i := 9) rfl))
set_option maxRecDepth 100000 in
theorem dL_law_1628 : decode cL_law 1628 = .ok (.istore 5, 2) := of_decide_eq_true (List.all_eq_true.mp tL_17_ok (1628, .istore 5, 2) (List.mem_of_getElem? (i := 10) rfl))
set_option maxRecDepth 100000 in
theorem dL_law_1630 : decode cL_law 1630 = .ok (.aload_n 2, 1) := of_decide_eq_true (List.all_eq_true.mp tL_17_ok (1630, .aload_n 2, 1) (List.mem_of_getElem? (i := 11) rfl))
set_option maxRecDepth 100000 in
theorem dL_law_1631 : decode cL_law 1631 = .ok (.aload_n 0, 1) := of_decide_eq_true (List.all_eq_true.mp tL_17_ok (1631, .aload_n 0, 1) (List.mem_of_getElem? (i := 12) rfl))
set_option maxRecDepth 100000 in
theorem dL_law_1632 : decode cL_law 1632 = .ok (.iload 4, 2) := of_decide_eq_true (List.all_eq_true.mp tL_17_ok (1632, .iload 4, 2) (List.mem_of_getElem? (i := 13) rfl))
set_option maxRecDepth 100000 in
theorem dL_law_1634 : decode cL_law 1634 = .ok (.iconst 1, 1) := of_decide_eq_true (List.all_eq_true.mp tL_17_ok (1634, .iconst 1, 1) (List.mem_of_getElem? (i := 14) rfl))
set_option maxRecDepth 100000 in
theorem dL_law_1635 : decode cL_law 1635 = .ok (.iadd, 1) := of_decide_eq_true (List.all_eq_true.mp tL_17_ok (1635, .iadd, 1) (List.mem_of_getElem? (i := 15) rfl))
set_option maxRecDepth 100000 in
theorem dL_law_1636 : decode cL_law 1636 = .ok (.iaload, 1) := of_decide_eq_true (List.all_eq_true.mp tL_17_ok (1636, .iaload, 1) (List.mem_of_getElem? (i := 16) rfl))
set_option maxRecDepth 100000 in
theorem dL_law_1637 : decode cL_law 1637 = .ok (.aload_n 0, 1) := of_decide_eq_true (List.all_eq_true.mp tL_17_ok (1637, .aload_n 0, 1) (List.mem_of_getElem? (i := 17) rfl))
set_option maxRecDepth 100000 in
theorem dL_law_1638 : decode cL_law 1638 = .ok (.iload 4, 2) := of_decide_eq_true (List.all_eq_true.mp tL_17_ok (1638, .iload 4, 2) (List.mem_of_getElem? (i := 18) rfl))
set_option maxRecDepth 100000 in
theorem dL_law_1640 : decode cL_law 1640 = .ok (.iconst 2, 1) := of_decide_eq_true (List.all_eq_true.mp tL_17_ok (1640, .iconst 2, 1) (List.mem_of_getElem? (i := 19) rfl))
set_option maxRecDepth 100000 in
theorem dL_law_1641 : decode cL_law 1641 = .ok (.iadd, 1) := of_decide_eq_true (List.all_eq_true.mp tL_17_ok (1641, .iadd, 1) (List.mem_of_getElem? (i := 20) rfl))
set_option maxRecDepth 100000 in
theorem dL_law_1642 : decode cL_law 1642 = .ok (.iaload, 1) := of_decide_eq_true (List.all_eq_true.mp tL_17_ok (1642, .iaload, 1) (List.mem_of_getElem? (i := 21) rfl))
set_option maxRecDepth 100000 in
theorem dL_law_1643 : decode cL_law 1643 = .ok (.invokevirtual 201, 3) := of_decide_eq_true (List.all_eq_true.mp tL_17_ok (1643, .invokevirtual 201, 3) (List.mem_of_getElem? (i := 22) rfl))
set_option maxRecDepth 100000 in
theorem dL_law_1646 : decode cL_law 1646 = .ok (.istore 6, 2) := of_decide_eq_true (List.all_eq_true.mp tL_17_ok (1646, .istore 6, 2) (List.mem_of_getElem? (i := 23) rfl))
set_option maxRecDepth 100000 in
theorem dL_law_1648 : decode cL_law 1648 = .ok (.aload_n 2, 1) := of_decide_eq_true (List.all_eq_true.mp tL_17_ok (1648, .aload_n 2, 1) (List.mem_of_getElem? (i := 24) rfl))
set_option maxRecDepth 100000 in
theorem dL_law_1649 : decode cL_law 1649 = .ok (.invokevirtual 118, 3) := of_decide_eq_true (List.all_eq_true.mp tL_17_ok (1649, .invokevirtual 118, 3) (List.mem_of_getElem? (i := 25) rfl))
set_option maxRecDepth 100000 in
theorem dL_law_1652 : decode cL_law 1652 = .ok (.iload 5, 2) := of_decide_eq_true (List.all_eq_true.mp tL_17_ok (1652, .iload 5, 2) (List.mem_of_getElem? (i := 26) rfl))
set_option maxRecDepth 100000 in
theorem dL_law_1654 : decode cL_law 1654 = .ok (.if_icmp .eq 5, 3) := of_decide_eq_true (List.all_eq_true.mp tL_17_ok (1654, .if_icmp .eq 5, 3) (List.mem_of_getElem? (i := 27) rfl))
set_option maxRecDepth 100000 in
theorem dL_law_1657 : decode cL_law 1657 = .ok (.iconst 0, 1) := of_decide_eq_true (List.all_eq_true.mp tL_17_ok (1657, .iconst 0, 1) (List.mem_of_getElem? (i := 28) rfl))
set_option maxRecDepth 100000 in
theorem dL_law_1658 : decode cL_law 1658 = .ok (.ireturn, 1) := of_decide_eq_true (List.all_eq_true.mp tL_17_ok (1658, .ireturn, 1) (List.mem_of_getElem? (i := 29) rfl))
def tL_18 : List (Nat × Instr × Nat) := [(1659, .iload 5, 2), (1661, .ifCond .ne 15, 3), (1664, .aload_n 3, 1), (1665, .iconst 0, 1), (1666, .laload, 1), (1667, .iload 6, 2), (1669, .i2l, 1), (1670, .lcmp, 1), (1671, .ifCond .eq 5, 3), (1674, .iconst 0, 1), (1675, .ireturn, 1), (1676, .goto 315, 3), (1679, .aload_n 1, 1), (1680, .aload_n 0, 1), (1681, .iload 4, 2), (1683, .iconst 1, 1), (1684, .iadd, 1), (1685, .iaload, 1), (1686, .aload_n 0, 1), (1687, .iload 4, 2), (1689, .iconst 2, 1), (1690, .iadd, 1), (1691, .iaload, 1), (1692, .i2l, 1), (1693, .bipush 32, 2), (1695, .lshl, 1), (1696, .aload_n 0, 1), (1697, .iload 4, 2), (1699, .iconst 3, 1), (1700, .iadd, 1)]
set_option maxRecDepth 100000 in
theorem tL_18_ok : tL_18.all (fun q => decide (decode cL_law q.1 = .ok (q.2.1, q.2.2))) = true := by decide +kernel
set_option maxRecDepth 100000 in
theorem dL_law_1659 : decode cL_law 1659 = .ok (.iload 5, 2) := of_decide_eq_true (List.all_eq_true.mp tL_18_ok (1659, .iload 5, 2) (List.mem_of_getElem? (i := 0) rfl))
set_option maxRecDepth 100000 in
theorem dL_law_1661 : decode cL_law 1661 = .ok (.ifCond .ne 15, 3) := of_decide_eq_true (List.all_eq_true.mp tL_18_ok (1661, .ifCond .ne 15, 3) (List.mem_of_getElem? (i := 1) rfl))
set_option maxRecDepth 100000 in
theorem dL_law_1664 : decode cL_law 1664 = .ok (.aload_n 3, 1) := of_decide_eq_true (List.all_eq_true.mp tL_18_ok (1664, .aload_n 3, 1) (List.mem_of_getElem? (i := 2) rfl))
set_option maxRecDepth 100000 in
theorem dL_law_1665 : decode cL_law 1665 = .ok (.iconst 0, 1) := of_decide_eq_true (List.all_eq_true.mp tL_18_ok (1665, .iconst 0, 1) (List.mem_of_getElem? (i := 3) rfl))
set_option maxRecDepth 100000 in
theorem dL_law_1666 : decode cL_law 1666 = .ok (.laload, 1) := of_decide_eq_true (List.all_eq_true.mp tL_18_ok (1666, .laload, 1) (List.mem_of_getElem? (i := 4) rfl))
set_option maxRecDepth 100000 in
theorem dL_law_1667 : decode cL_law 1667 = .ok (.iload 6, 2) := of_decide_eq_true (List.all_eq_true.mp tL_18_ok (1667, .iload 6, 2) (List.mem_of_getElem? (i := 5) rfl))
set_option maxRecDepth 100000 in
theorem dL_law_1669 : decode cL_law 1669 = .ok (.i2l, 1) := of_decide_eq_true (List.all_eq_true.mp tL_18_ok (1669, .i2l, 1) (List.mem_of_getElem? (i := 6) rfl))
set_option maxRecDepth 100000 in
theorem dL_law_1670 : decode cL_law 1670 = .ok (.lcmp, 1) := of_decide_eq_true (List.all_eq_true.mp tL_18_ok (1670, .lcmp, 1) (List.mem_of_getElem? (i := 7) rfl))
set_option maxRecDepth 100000 in
theorem dL_law_1671 : decode cL_law 1671 = .ok (.ifCond .eq 5, 3) := of_decide_eq_true (List.all_eq_true.mp tL_18_ok (1671, .ifCond .eq 5, 3) (List.mem_of_getElem? (i := 8) rfl))
set_option maxRecDepth 100000 in
theorem dL_law_1674 : decode cL_law 1674 = .ok (.iconst 0, 1) := of_decide_eq_true (List.all_eq_true.mp tL_18_ok (1674, .iconst 0, 1) (List.mem_of_getElem? (i := 9) rfl))
set_option maxRecDepth 100000 in
theorem dL_law_1675 : decode cL_law 1675 = .ok (.ireturn, 1) := of_decide_eq_true (List.all_eq_true.mp tL_18_ok (1675, .ireturn, 1) (List.mem_of_getElem? (i := 10) rfl))
set_option maxRecDepth 100000 in
theorem dL_law_1676 : decode cL_law 1676 = .ok (.goto 315, 3) := of_decide_eq_true (List.all_eq_true.mp tL_18_ok (1676, .goto 315, 3) (List.mem_of_getElem? (i := 11) rfl))
set_option maxRecDepth 100000 in
theorem dL_law_1679 : decode cL_law 1679 = .ok (.aload_n 1, 1) := of_decide_eq_true (List.all_eq_true.mp tL_18_ok (1679, .aload_n 1, 1) (List.mem_of_getElem? (i := 12) rfl))
set_option maxRecDepth 100000 in
theorem dL_law_1680 : decode cL_law 1680 = .ok (.aload_n 0, 1) := of_decide_eq_true (List.all_eq_true.mp tL_18_ok (1680, .aload_n 0, 1) (List.mem_of_getElem? (i := 13) rfl))
set_option maxRecDepth 100000 in
theorem dL_law_1681 : decode cL_law 1681 = .ok (.iload 4, 2) := of_decide_eq_true (List.all_eq_true.mp tL_18_ok (1681, .iload 4, 2) (List.mem_of_getElem? (i := 14) rfl))
set_option maxRecDepth 100000 in
theorem dL_law_1683 : decode cL_law 1683 = .ok (.iconst 1, 1) := of_decide_eq_true (List.all_eq_true.mp tL_18_ok (1683, .iconst 1, 1) (List.mem_of_getElem? (i := 15) rfl))
set_option maxRecDepth 100000 in
theorem dL_law_1684 : decode cL_law 1684 = .ok (.iadd, 1) := of_decide_eq_true (List.all_eq_true.mp tL_18_ok (1684, .iadd, 1) (List.mem_of_getElem? (i := 16) rfl))
set_option maxRecDepth 100000 in
theorem dL_law_1685 : decode cL_law 1685 = .ok (.iaload, 1) := of_decide_eq_true (List.all_eq_true.mp tL_18_ok (1685, .iaload, 1) (List.mem_of_getElem? (i := 17) rfl))
set_option maxRecDepth 100000 in
theorem dL_law_1686 : decode cL_law 1686 = .ok (.aload_n 0, 1) := of_decide_eq_true (List.all_eq_true.mp tL_18_ok (1686, .aload_n 0, 1) (List.mem_of_getElem? (i := 18) rfl))
set_option maxRecDepth 100000 in
theorem dL_law_1687 : decode cL_law 1687 = .ok (.iload 4, 2) := of_decide_eq_true (List.all_eq_true.mp tL_18_ok (1687, .iload 4, 2) (List.mem_of_getElem? (i := 19) rfl))
set_option maxRecDepth 100000 in
theorem dL_law_1689 : decode cL_law 1689 = .ok (.iconst 2, 1) := of_decide_eq_true (List.all_eq_true.mp tL_18_ok (1689, .iconst 2, 1) (List.mem_of_getElem? (i := 20) rfl))
set_option maxRecDepth 100000 in
theorem dL_law_1690 : decode cL_law 1690 = .ok (.iadd, 1) := of_decide_eq_true (List.all_eq_true.mp tL_18_ok (1690, .iadd, 1) (List.mem_of_getElem? (i := 21) rfl))
set_option maxRecDepth 100000 in
theorem dL_law_1691 : decode cL_law 1691 = .ok (.iaload, 1) := of_decide_eq_true (List.all_eq_true.mp tL_18_ok (1691, .iaload, 1) (List.mem_of_getElem? (i := 22) rfl))
set_option maxRecDepth 100000 in
theorem dL_law_1692 : decode cL_law 1692 = .ok (.i2l, 1) := of_decide_eq_true (List.all_eq_true.mp tL_18_ok (1692, .i2l, 1) (List.mem_of_getElem? (i := 23) rfl))
set_option maxRecDepth 100000 in
theorem dL_law_1693 : decode cL_law 1693 = .ok (.bipush 32, 2) := of_decide_eq_true (List.all_eq_true.mp tL_18_ok (1693, .bipush 32, 2) (List.mem_of_getElem? (i := 24) rfl))
set_option maxRecDepth 100000 in
theorem dL_law_1695 : decode cL_law 1695 = .ok (.lshl, 1) := of_decide_eq_true (List.all_eq_true.mp tL_18_ok (1695, .lshl, 1) (List.mem_of_getElem? (i := 25) rfl))
set_option maxRecDepth 100000 in
theorem dL_law_1696 : decode cL_law 1696 = .ok (.aload_n 0, 1) := of_decide_eq_true (List.all_eq_true.mp tL_18_ok (1696, .aload_n 0, 1) (List.mem_of_getElem? (i := 26) rfl))
set_option maxRecDepth 100000 in
theorem dL_law_1697 : decode cL_law 1697 = .ok (.iload 4, 2) := of_decide_eq_true (List.all_eq_true.mp tL_18_ok (1697, .iload 4, 2) (List.mem_of_getElem? (i := 27) rfl))
set_option maxRecDepth 100000 in
theorem dL_law_1699 : decode cL_law 1699 = .ok (.iconst 3, 1) := of_decide_eq_true (List.all_eq_true.mp tL_18_ok (1699, .iconst 3, 1) (List.mem_of_getElem? (i := 28) rfl))
set_option maxRecDepth 100000 in
theorem dL_law_1700 : decode cL_law 1700 = .ok (.iadd, 1) := of_decide_eq_true (List.all_eq_true.mp tL_18_ok (1700, .iadd, 1) (List.mem_of_getElem? (i := 29) rfl))
def tL_19 : List (Nat × Instr × Nat) := [(1701, .iaload, 1), (1702, .i2l, 1), (1703, .ldc2_w 202, 3), (1706, .land, 1), (1707, .lor, 1), (1708, .aload_n 3, 1), (1709, .invokestatic 204, 3), (1712, .istore 5, 2), (1714, .aload_n 2, 1), (1715, .aload_n 0, 1), (1716, .iload 4, 2), (1718, .iconst 1, 1), (1719, .iadd, 1), (1720, .iaload, 1), (1721, .aload_n 0, 1), (1722, .iload 4, 2), (1724, .iconst 2, 1), (1725, .iadd, 1), (1726, .iaload, 1), (1727, .i2l, 1), (1728, .bipush 32, 2), (1730, .lshl, 1), (1731, .aload_n 0, 1), (1732, .iload 4, 2), (1734, .iconst 3, 1), (1735, .iadd, 1), (1736, .iaload, 1), (1737, .i2l, 1), (1738, .ldc2_w 202, 3), (1741, .land, 1)]
set_option maxRecDepth 100000 in
theorem tL_19_ok : tL_19.all (fun q => decide (decode cL_law q.1 = .ok (q.2.1, q.2.2))) = true := by decide +kernel
set_option maxRecDepth 100000 in
theorem dL_law_1701 : decode cL_law 1701 = .ok (.iaload, 1) := of_decide_eq_true (List.all_eq_true.mp tL_19_ok (1701, .iaload, 1) (List.mem_of_getElem? (i := 0) rfl))
set_option maxRecDepth 100000 in
theorem dL_law_1702 : decode cL_law 1702 = .ok (.i2l, 1) := of_decide_eq_true (List.all_eq_true.mp tL_19_ok (1702, .i2l, 1) (List.mem_of_getElem? (i := 1) rfl))
set_option maxRecDepth 100000 in
theorem dL_law_1703 : decode cL_law 1703 = .ok (.ldc2_w 202, 3) := of_decide_eq_true (List.all_eq_true.mp tL_19_ok (1703, .ldc2_w 202, 3) (List.mem_of_getElem? (i := 2) rfl))
set_option maxRecDepth 100000 in
theorem dL_law_1706 : decode cL_law 1706 = .ok (.land, 1) := of_decide_eq_true (List.all_eq_true.mp tL_19_ok (1706, .land, 1) (List.mem_of_getElem? (i := 3) rfl))
set_option maxRecDepth 100000 in
theorem dL_law_1707 : decode cL_law 1707 = .ok (.lor, 1) := of_decide_eq_true (List.all_eq_true.mp tL_19_ok (1707, .lor, 1) (List.mem_of_getElem? (i := 4) rfl))
set_option maxRecDepth 100000 in
theorem dL_law_1708 : decode cL_law 1708 = .ok (.aload_n 3, 1) := of_decide_eq_true (List.all_eq_true.mp tL_19_ok (1708, .aload_n 3, 1) (List.mem_of_getElem? (i := 5) rfl))
set_option maxRecDepth 100000 in
theorem dL_law_1709 : decode cL_law 1709 = .ok (.invokestatic 204, 3) := of_decide_eq_true (List.all_eq_true.mp tL_19_ok (1709, .invokestatic 204, 3) (List.mem_of_getElem? (i := 6) rfl))
set_option maxRecDepth 100000 in
theorem dL_law_1712 : decode cL_law 1712 = .ok (.istore 5, 2) := of_decide_eq_true (List.all_eq_true.mp tL_19_ok (1712, .istore 5, 2) (List.mem_of_getElem? (i := 7) rfl))
set_option maxRecDepth 100000 in
theorem dL_law_1714 : decode cL_law 1714 = .ok (.aload_n 2, 1) := of_decide_eq_true (List.all_eq_true.mp tL_19_ok (1714, .aload_n 2, 1) (List.mem_of_getElem? (i := 8) rfl))
set_option maxRecDepth 100000 in
theorem dL_law_1715 : decode cL_law 1715 = .ok (.aload_n 0, 1) := of_decide_eq_true (List.all_eq_true.mp tL_19_ok (1715, .aload_n 0, 1) (List.mem_of_getElem? (i := 9) rfl))
set_option maxRecDepth 100000 in
theorem dL_law_1716 : decode cL_law 1716 = .ok (.iload 4, 2) := of_decide_eq_true (List.all_eq_true.mp tL_19_ok (1716, .iload 4, 2) (List.mem_of_getElem? (i := 10) rfl))
set_option maxRecDepth 100000 in
theorem dL_law_1718 : decode cL_law 1718 = .ok (.iconst 1, 1) := of_decide_eq_true (List.all_eq_true.mp tL_19_ok (1718, .iconst 1, 1) (List.mem_of_getElem? (i := 11) rfl))
set_option maxRecDepth 100000 in
theorem dL_law_1719 : decode cL_law 1719 = .ok (.iadd, 1) := of_decide_eq_true (List.all_eq_true.mp tL_19_ok (1719, .iadd, 1) (List.mem_of_getElem? (i := 12) rfl))
set_option maxRecDepth 100000 in
theorem dL_law_1720 : decode cL_law 1720 = .ok (.iaload, 1) := of_decide_eq_true (List.all_eq_true.mp tL_19_ok (1720, .iaload, 1) (List.mem_of_getElem? (i := 13) rfl))
set_option maxRecDepth 100000 in
theorem dL_law_1721 : decode cL_law 1721 = .ok (.aload_n 0, 1) := of_decide_eq_true (List.all_eq_true.mp tL_19_ok (1721, .aload_n 0, 1) (List.mem_of_getElem? (i := 14) rfl))
set_option maxRecDepth 100000 in
theorem dL_law_1722 : decode cL_law 1722 = .ok (.iload 4, 2) := of_decide_eq_true (List.all_eq_true.mp tL_19_ok (1722, .iload 4, 2) (List.mem_of_getElem? (i := 15) rfl))
set_option maxRecDepth 100000 in
theorem dL_law_1724 : decode cL_law 1724 = .ok (.iconst 2, 1) := of_decide_eq_true (List.all_eq_true.mp tL_19_ok (1724, .iconst 2, 1) (List.mem_of_getElem? (i := 16) rfl))
set_option maxRecDepth 100000 in
theorem dL_law_1725 : decode cL_law 1725 = .ok (.iadd, 1) := of_decide_eq_true (List.all_eq_true.mp tL_19_ok (1725, .iadd, 1) (List.mem_of_getElem? (i := 17) rfl))
set_option maxRecDepth 100000 in
theorem dL_law_1726 : decode cL_law 1726 = .ok (.iaload, 1) := of_decide_eq_true (List.all_eq_true.mp tL_19_ok (1726, .iaload, 1) (List.mem_of_getElem? (i := 18) rfl))
set_option maxRecDepth 100000 in
theorem dL_law_1727 : decode cL_law 1727 = .ok (.i2l, 1) := of_decide_eq_true (List.all_eq_true.mp tL_19_ok (1727, .i2l, 1) (List.mem_of_getElem? (i := 19) rfl))
set_option maxRecDepth 100000 in
theorem dL_law_1728 : decode cL_law 1728 = .ok (.bipush 32, 2) := of_decide_eq_true (List.all_eq_true.mp tL_19_ok (1728, .bipush 32, 2) (List.mem_of_getElem? (i := 20) rfl))
set_option maxRecDepth 100000 in
theorem dL_law_1730 : decode cL_law 1730 = .ok (.lshl, 1) := of_decide_eq_true (List.all_eq_true.mp tL_19_ok (1730, .lshl, 1) (List.mem_of_getElem? (i := 21) rfl))
set_option maxRecDepth 100000 in
theorem dL_law_1731 : decode cL_law 1731 = .ok (.aload_n 0, 1) := of_decide_eq_true (List.all_eq_true.mp tL_19_ok (1731, .aload_n 0, 1) (List.mem_of_getElem? (i := 22) rfl))
set_option maxRecDepth 100000 in
theorem dL_law_1732 : decode cL_law 1732 = .ok (.iload 4, 2) := of_decide_eq_true (List.all_eq_true.mp tL_19_ok (1732, .iload 4, 2) (List.mem_of_getElem? (i := 23) rfl))
set_option maxRecDepth 100000 in
theorem dL_law_1734 : decode cL_law 1734 = .ok (.iconst 3, 1) := of_decide_eq_true (List.all_eq_true.mp tL_19_ok (1734, .iconst 3, 1) (List.mem_of_getElem? (i := 24) rfl))
set_option maxRecDepth 100000 in
theorem dL_law_1735 : decode cL_law 1735 = .ok (.iadd, 1) := of_decide_eq_true (List.all_eq_true.mp tL_19_ok (1735, .iadd, 1) (List.mem_of_getElem? (i := 25) rfl))
set_option maxRecDepth 100000 in
theorem dL_law_1736 : decode cL_law 1736 = .ok (.iaload, 1) := of_decide_eq_true (List.all_eq_true.mp tL_19_ok (1736, .iaload, 1) (List.mem_of_getElem? (i := 26) rfl))
set_option maxRecDepth 100000 in
theorem dL_law_1737 : decode cL_law 1737 = .ok (.i2l, 1) := of_decide_eq_true (List.all_eq_true.mp tL_19_ok (1737, .i2l, 1) (List.mem_of_getElem? (i := 27) rfl))
set_option maxRecDepth 100000 in
theorem dL_law_1738 : decode cL_law 1738 = .ok (.ldc2_w 202, 3) := of_decide_eq_true (List.all_eq_true.mp tL_19_ok (1738, .ldc2_w 202, 3) (List.mem_of_getElem? (i := 28) rfl))
set_option maxRecDepth 100000 in
theorem dL_law_1741 : decode cL_law 1741 = .ok (.land, 1) := of_decide_eq_true (List.all_eq_true.mp tL_19_ok (1741, .land, 1) (List.mem_of_getElem? (i := 29) rfl))
def tL_20 : List (Nat × Instr × Nat) := [(1742, .lor, 1), (1743, .invokevirtual 207, 3), (1746, .istore 6, 2), (1748, .aload_n 2, 1), (1749, .invokevirtual 118, 3), (1752, .iload 5, 2), (1754, .if_icmp .eq 5, 3), (1757, .iconst 0, 1), (1758, .ireturn, 1), (1759, .iload 5, 2), (1761, .ifCond .ne 15, 3), (1764, .aload_n 3, 1), (1765, .iconst 0, 1), (1766, .laload, 1), (1767, .iload 6, 2), (1769, .i2l, 1), (1770, .lcmp, 1), (1771, .ifCond .eq 5, 3), (1774, .iconst 0, 1), (1775, .ireturn, 1), (1776, .goto 215, 3), (1779, .aload_n 1, 1), (1780, .aload_n 0, 1), (1781, .iload 4, 2), (1783, .iconst 1, 1), (1784, .iadd, 1), (1785, .iaload, 1), (1786, .i2l, 1), (1787, .bipush 32, 2), (1789, .lshl, 1)]
set_option maxRecDepth 100000 in
theorem tL_20_ok : tL_20.all (fun q => decide (decode cL_law q.1 = .ok (q.2.1, q.2.2))) = true := by decide +kernel
set_option maxRecDepth 100000 in
theorem dL_law_1742 : decode cL_law 1742 = .ok (.lor, 1) := of_decide_eq_true (List.all_eq_true.mp tL_20_ok (1742, .lor, 1) (List.mem_of_getElem? (i := 0) rfl))
set_option maxRecDepth 100000 in
theorem dL_law_1743 : decode cL_law 1743 = .ok (.invokevirtual 207, 3) := of_decide_eq_true (List.all_eq_true.mp tL_20_ok (1743, .invokevirtual 207, 3) (List.mem_of_getElem? (i := 1) rfl))
set_option maxRecDepth 100000 in
theorem dL_law_1746 : decode cL_law 1746 = .ok (.istore 6, 2) := of_decide_eq_true (List.all_eq_true.mp tL_20_ok (1746, .istore 6, 2) (List.mem_of_getElem? (i := 2) rfl))
set_option maxRecDepth 100000 in
theorem dL_law_1748 : decode cL_law 1748 = .ok (.aload_n 2, 1) := of_decide_eq_true (List.all_eq_true.mp tL_20_ok (1748, .aload_n 2, 1) (List.mem_of_getElem? (i := 3) rfl))
set_option maxRecDepth 100000 in
theorem dL_law_1749 : decode cL_law 1749 = .ok (.invokevirtual 118, 3) := of_decide_eq_true (List.all_eq_true.mp tL_20_ok (1749, .invokevirtual 118, 3) (List.mem_of_getElem? (i := 4) rfl))
set_option maxRecDepth 100000 in
theorem dL_law_1752 : decode cL_law 1752 = .ok (.iload 5, 2) := of_decide_eq_true (List.all_eq_true.mp tL_20_ok (1752, .iload 5, 2) (List.mem_of_getElem? (i := 5) rfl))
set_option maxRecDepth 100000 in
theorem dL_law_1754 : decode cL_law 1754 = .ok (.if_icmp .eq 5, 3) := of_decide_eq_true (List.all_eq_true.mp tL_20_ok (1754, .if_icmp .eq 5, 3) (List.mem_of_getElem? (i := 6) rfl))
set_option maxRecDepth 100000 in
theorem dL_law_1757 : decode cL_law 1757 = .ok (.iconst 0, 1) := of_decide_eq_true (List.all_eq_true.mp tL_20_ok (1757, .iconst 0, 1) (List.mem_of_getElem? (i := 7) rfl))
set_option maxRecDepth 100000 in
theorem dL_law_1758 : decode cL_law 1758 = .ok (.ireturn, 1) := of_decide_eq_true (List.all_eq_true.mp tL_20_ok (1758, .ireturn, 1) (List.mem_of_getElem? (i := 8) rfl))
set_option maxRecDepth 100000 in
theorem dL_law_1759 : decode cL_law 1759 = .ok (.iload 5, 2) := of_decide_eq_true (List.all_eq_true.mp tL_20_ok (1759, .iload 5, 2) (List.mem_of_getElem? (i := 9) rfl))
set_option maxRecDepth 100000 in
theorem dL_law_1761 : decode cL_law 1761 = .ok (.ifCond .ne 15, 3) := of_decide_eq_true (List.all_eq_true.mp tL_20_ok (1761, .ifCond .ne 15, 3) (List.mem_of_getElem? (i := 10) rfl))
set_option maxRecDepth 100000 in
theorem dL_law_1764 : decode cL_law 1764 = .ok (.aload_n 3, 1) := of_decide_eq_true (List.all_eq_true.mp tL_20_ok (1764, .aload_n 3, 1) (List.mem_of_getElem? (i := 11) rfl))
set_option maxRecDepth 100000 in
theorem dL_law_1765 : decode cL_law 1765 = .ok (.iconst 0, 1) := of_decide_eq_true (List.all_eq_true.mp tL_20_ok (1765, .iconst 0, 1) (List.mem_of_getElem? (i := 12) rfl))
set_option maxRecDepth 100000 in
theorem dL_law_1766 : decode cL_law 1766 = .ok (.laload, 1) := of_decide_eq_true (List.all_eq_true.mp tL_20_ok (1766, .laload, 1) (List.mem_of_getElem? (i := 13) rfl))
set_option maxRecDepth 100000 in
theorem dL_law_1767 : decode cL_law 1767 = .ok (.iload 6, 2) := of_decide_eq_true (List.all_eq_true.mp tL_20_ok (1767, .iload 6, 2) (List.mem_of_getElem? (i := 14) rfl))
set_option maxRecDepth 100000 in
theorem dL_law_1769 : decode cL_law 1769 = .ok (.i2l, 1) := of_decide_eq_true (List.all_eq_true.mp tL_20_ok (1769, .i2l, 1) (List.mem_of_getElem? (i := 15) rfl))
set_option maxRecDepth 100000 in
theorem dL_law_1770 : decode cL_law 1770 = .ok (.lcmp, 1) := of_decide_eq_true (List.all_eq_true.mp tL_20_ok (1770, .lcmp, 1) (List.mem_of_getElem? (i := 16) rfl))
set_option maxRecDepth 100000 in
theorem dL_law_1771 : decode cL_law 1771 = .ok (.ifCond .eq 5, 3) := of_decide_eq_true (List.all_eq_true.mp tL_20_ok (1771, .ifCond .eq 5, 3) (List.mem_of_getElem? (i := 17) rfl))
set_option maxRecDepth 100000 in
theorem dL_law_1774 : decode cL_law 1774 = .ok (.iconst 0, 1) := of_decide_eq_true (List.all_eq_true.mp tL_20_ok (1774, .iconst 0, 1) (List.mem_of_getElem? (i := 18) rfl))
set_option maxRecDepth 100000 in
theorem dL_law_1775 : decode cL_law 1775 = .ok (.ireturn, 1) := of_decide_eq_true (List.all_eq_true.mp tL_20_ok (1775, .ireturn, 1) (List.mem_of_getElem? (i := 19) rfl))
set_option maxRecDepth 100000 in
theorem dL_law_1776 : decode cL_law 1776 = .ok (.goto 215, 3) := of_decide_eq_true (List.all_eq_true.mp tL_20_ok (1776, .goto 215, 3) (List.mem_of_getElem? (i := 20) rfl))
set_option maxRecDepth 100000 in
theorem dL_law_1779 : decode cL_law 1779 = .ok (.aload_n 1, 1) := of_decide_eq_true (List.all_eq_true.mp tL_20_ok (1779, .aload_n 1, 1) (List.mem_of_getElem? (i := 21) rfl))
set_option maxRecDepth 100000 in
theorem dL_law_1780 : decode cL_law 1780 = .ok (.aload_n 0, 1) := of_decide_eq_true (List.all_eq_true.mp tL_20_ok (1780, .aload_n 0, 1) (List.mem_of_getElem? (i := 22) rfl))
set_option maxRecDepth 100000 in
theorem dL_law_1781 : decode cL_law 1781 = .ok (.iload 4, 2) := of_decide_eq_true (List.all_eq_true.mp tL_20_ok (1781, .iload 4, 2) (List.mem_of_getElem? (i := 23) rfl))
set_option maxRecDepth 100000 in
theorem dL_law_1783 : decode cL_law 1783 = .ok (.iconst 1, 1) := of_decide_eq_true (List.all_eq_true.mp tL_20_ok (1783, .iconst 1, 1) (List.mem_of_getElem? (i := 24) rfl))
set_option maxRecDepth 100000 in
theorem dL_law_1784 : decode cL_law 1784 = .ok (.iadd, 1) := of_decide_eq_true (List.all_eq_true.mp tL_20_ok (1784, .iadd, 1) (List.mem_of_getElem? (i := 25) rfl))
set_option maxRecDepth 100000 in
theorem dL_law_1785 : decode cL_law 1785 = .ok (.iaload, 1) := of_decide_eq_true (List.all_eq_true.mp tL_20_ok (1785, .iaload, 1) (List.mem_of_getElem? (i := 26) rfl))
set_option maxRecDepth 100000 in
theorem dL_law_1786 : decode cL_law 1786 = .ok (.i2l, 1) := of_decide_eq_true (List.all_eq_true.mp tL_20_ok (1786, .i2l, 1) (List.mem_of_getElem? (i := 27) rfl))
set_option maxRecDepth 100000 in
theorem dL_law_1787 : decode cL_law 1787 = .ok (.bipush 32, 2) := of_decide_eq_true (List.all_eq_true.mp tL_20_ok (1787, .bipush 32, 2) (List.mem_of_getElem? (i := 28) rfl))
set_option maxRecDepth 100000 in
theorem dL_law_1789 : decode cL_law 1789 = .ok (.lshl, 1) := of_decide_eq_true (List.all_eq_true.mp tL_20_ok (1789, .lshl, 1) (List.mem_of_getElem? (i := 29) rfl))
def tL_21 : List (Nat × Instr × Nat) := [(1790, .aload_n 0, 1), (1791, .iload 4, 2), (1793, .iconst 2, 1), (1794, .iadd, 1), (1795, .iaload, 1), (1796, .i2l, 1), (1797, .ldc2_w 202, 3), (1800, .land, 1), (1801, .lor, 1), (1802, .aload_n 0, 1), (1803, .iload 4, 2), (1805, .iconst 3, 1), (1806, .iadd, 1), (1807, .iaload, 1), (1808, .aload_n 3, 1), (1809, .invokestatic 208, 3), (1812, .istore 5, 2), (1814, .aload_n 2, 1), (1815, .aload_n 0, 1), (1816, .iload 4, 2), (1818, .iconst 1, 1), (1819, .iadd, 1), (1820, .iaload, 1), (1821, .i2l, 1), (1822, .bipush 32, 2), (1824, .lshl, 1), (1825, .aload_n 0, 1), (1826, .iload 4, 2), (1828, .iconst 2, 1), (1829, .iadd, 1)]
set_option maxRecDepth 100000 in
theorem tL_21_ok : tL_21.all (fun q => decide (decode cL_law q.1 = .ok (q.2.1, q.2.2))) = true := by decide +kernel
set_option maxRecDepth 100000 in
theorem dL_law_1790 : decode cL_law 1790 = .ok (.aload_n 0, 1) := of_decide_eq_true (List.all_eq_true.mp tL_21_ok (1790, .aload_n 0, 1) (List.mem_of_getElem? (i := 0) rfl))
set_option maxRecDepth 100000 in
theorem dL_law_1791 : decode cL_law 1791 = .ok (.iload 4, 2) := of_decide_eq_true (List.all_eq_true.mp tL_21_ok (1791, .iload 4, 2) (List.mem_of_getElem? (i := 1) rfl))
set_option maxRecDepth 100000 in
theorem dL_law_1793 : decode cL_law 1793 = .ok (.iconst 2, 1) := of_decide_eq_true (List.all_eq_true.mp tL_21_ok (1793, .iconst 2, 1) (List.mem_of_getElem? (i := 2) rfl))
set_option maxRecDepth 100000 in
theorem dL_law_1794 : decode cL_law 1794 = .ok (.iadd, 1) := of_decide_eq_true (List.all_eq_true.mp tL_21_ok (1794, .iadd, 1) (List.mem_of_getElem? (i := 3) rfl))
set_option maxRecDepth 100000 in
theorem dL_law_1795 : decode cL_law 1795 = .ok (.iaload, 1) := of_decide_eq_true (List.all_eq_true.mp tL_21_ok (1795, .iaload, 1) (List.mem_of_getElem? (i := 4) rfl))
set_option maxRecDepth 100000 in
theorem dL_law_1796 : decode cL_law 1796 = .ok (.i2l, 1) := of_decide_eq_true (List.all_eq_true.mp tL_21_ok (1796, .i2l, 1) (List.mem_of_getElem? (i := 5) rfl))
set_option maxRecDepth 100000 in
theorem dL_law_1797 : decode cL_law 1797 = .ok (.ldc2_w 202, 3) := of_decide_eq_true (List.all_eq_true.mp tL_21_ok (1797, .ldc2_w 202, 3) (List.mem_of_getElem? (i := 6) rfl))
set_option maxRecDepth 100000 in
theorem dL_law_1800 : decode cL_law 1800 = .ok (.land, 1) := of_decide_eq_true (List.all_eq_true.mp tL_21_ok (1800, .land, 1) (List.mem_of_getElem? (i := 7) rfl))
set_option maxRecDepth 100000 in
theorem dL_law_1801 : decode cL_law 1801 = .ok (.lor, 1) := of_decide_eq_true (List.all_eq_true.mp tL_21_ok (1801, .lor, 1) (List.mem_of_getElem? (i := 8) rfl))
set_option maxRecDepth 100000 in
theorem dL_law_1802 : decode cL_law 1802 = .ok (.aload_n 0, 1) := of_decide_eq_true (List.all_eq_true.mp tL_21_ok (1802, .aload_n 0, 1) (List.mem_of_getElem? (i := 9) rfl))
set_option maxRecDepth 100000 in
theorem dL_law_1803 : decode cL_law 1803 = .ok (.iload 4, 2) := of_decide_eq_true (List.all_eq_true.mp tL_21_ok (1803, .iload 4, 2) (List.mem_of_getElem? (i := 10) rfl))
set_option maxRecDepth 100000 in
theorem dL_law_1805 : decode cL_law 1805 = .ok (.iconst 3, 1) := of_decide_eq_true (List.all_eq_true.mp tL_21_ok (1805, .iconst 3, 1) (List.mem_of_getElem? (i := 11) rfl))
set_option maxRecDepth 100000 in
theorem dL_law_1806 : decode cL_law 1806 = .ok (.iadd, 1) := of_decide_eq_true (List.all_eq_true.mp tL_21_ok (1806, .iadd, 1) (List.mem_of_getElem? (i := 12) rfl))
set_option maxRecDepth 100000 in
theorem dL_law_1807 : decode cL_law 1807 = .ok (.iaload, 1) := of_decide_eq_true (List.all_eq_true.mp tL_21_ok (1807, .iaload, 1) (List.mem_of_getElem? (i := 13) rfl))
set_option maxRecDepth 100000 in
theorem dL_law_1808 : decode cL_law 1808 = .ok (.aload_n 3, 1) := of_decide_eq_true (List.all_eq_true.mp tL_21_ok (1808, .aload_n 3, 1) (List.mem_of_getElem? (i := 14) rfl))
set_option maxRecDepth 100000 in
theorem dL_law_1809 : decode cL_law 1809 = .ok (.invokestatic 208, 3) := of_decide_eq_true (List.all_eq_true.mp tL_21_ok (1809, .invokestatic 208, 3) (List.mem_of_getElem? (i := 15) rfl))
set_option maxRecDepth 100000 in
theorem dL_law_1812 : decode cL_law 1812 = .ok (.istore 5, 2) := of_decide_eq_true (List.all_eq_true.mp tL_21_ok (1812, .istore 5, 2) (List.mem_of_getElem? (i := 16) rfl))
set_option maxRecDepth 100000 in
theorem dL_law_1814 : decode cL_law 1814 = .ok (.aload_n 2, 1) := of_decide_eq_true (List.all_eq_true.mp tL_21_ok (1814, .aload_n 2, 1) (List.mem_of_getElem? (i := 17) rfl))
set_option maxRecDepth 100000 in
theorem dL_law_1815 : decode cL_law 1815 = .ok (.aload_n 0, 1) := of_decide_eq_true (List.all_eq_true.mp tL_21_ok (1815, .aload_n 0, 1) (List.mem_of_getElem? (i := 18) rfl))
set_option maxRecDepth 100000 in
theorem dL_law_1816 : decode cL_law 1816 = .ok (.iload 4, 2) := of_decide_eq_true (List.all_eq_true.mp tL_21_ok (1816, .iload 4, 2) (List.mem_of_getElem? (i := 19) rfl))
set_option maxRecDepth 100000 in
theorem dL_law_1818 : decode cL_law 1818 = .ok (.iconst 1, 1) := of_decide_eq_true (List.all_eq_true.mp tL_21_ok (1818, .iconst 1, 1) (List.mem_of_getElem? (i := 20) rfl))
set_option maxRecDepth 100000 in
theorem dL_law_1819 : decode cL_law 1819 = .ok (.iadd, 1) := of_decide_eq_true (List.all_eq_true.mp tL_21_ok (1819, .iadd, 1) (List.mem_of_getElem? (i := 21) rfl))
set_option maxRecDepth 100000 in
theorem dL_law_1820 : decode cL_law 1820 = .ok (.iaload, 1) := of_decide_eq_true (List.all_eq_true.mp tL_21_ok (1820, .iaload, 1) (List.mem_of_getElem? (i := 22) rfl))
set_option maxRecDepth 100000 in
theorem dL_law_1821 : decode cL_law 1821 = .ok (.i2l, 1) := of_decide_eq_true (List.all_eq_true.mp tL_21_ok (1821, .i2l, 1) (List.mem_of_getElem? (i := 23) rfl))
set_option maxRecDepth 100000 in
theorem dL_law_1822 : decode cL_law 1822 = .ok (.bipush 32, 2) := of_decide_eq_true (List.all_eq_true.mp tL_21_ok (1822, .bipush 32, 2) (List.mem_of_getElem? (i := 24) rfl))
set_option maxRecDepth 100000 in
theorem dL_law_1824 : decode cL_law 1824 = .ok (.lshl, 1) := of_decide_eq_true (List.all_eq_true.mp tL_21_ok (1824, .lshl, 1) (List.mem_of_getElem? (i := 25) rfl))
set_option maxRecDepth 100000 in
theorem dL_law_1825 : decode cL_law 1825 = .ok (.aload_n 0, 1) := of_decide_eq_true (List.all_eq_true.mp tL_21_ok (1825, .aload_n 0, 1) (List.mem_of_getElem? (i := 26) rfl))
set_option maxRecDepth 100000 in
theorem dL_law_1826 : decode cL_law 1826 = .ok (.iload 4, 2) := of_decide_eq_true (List.all_eq_true.mp tL_21_ok (1826, .iload 4, 2) (List.mem_of_getElem? (i := 27) rfl))
set_option maxRecDepth 100000 in
theorem dL_law_1828 : decode cL_law 1828 = .ok (.iconst 2, 1) := of_decide_eq_true (List.all_eq_true.mp tL_21_ok (1828, .iconst 2, 1) (List.mem_of_getElem? (i := 28) rfl))
set_option maxRecDepth 100000 in
theorem dL_law_1829 : decode cL_law 1829 = .ok (.iadd, 1) := of_decide_eq_true (List.all_eq_true.mp tL_21_ok (1829, .iadd, 1) (List.mem_of_getElem? (i := 29) rfl))
def tL_22 : List (Nat × Instr × Nat) := [(1830, .iaload, 1), (1831, .i2l, 1), (1832, .ldc2_w 202, 3), (1835, .land, 1), (1836, .lor, 1), (1837, .aload_n 0, 1), (1838, .iload 4, 2), (1840, .iconst 3, 1), (1841, .iadd, 1), (1842, .iaload, 1), (1843, .invokevirtual 211, 3), (1846, .istore 6, 2), (1848, .aload_n 2, 1), (1849, .invokevirtual 118, 3), (1852, .iload 5, 2), (1854, .if_icmp .eq 5, 3), (1857, .iconst 0, 1), (1858, .ireturn, 1), (1859, .iload 5, 2), (1861, .ifCond .ne 15, 3), (1864, .aload_n 3, 1), (1865, .iconst 0, 1), (1866, .laload, 1), (1867, .iload 6, 2), (1869, .i2l, 1), (1870, .lcmp, 1), (1871, .ifCond .eq 5, 3), (1874, .iconst 0, 1), (1875, .ireturn, 1), (1876, .goto 115, 3)]
set_option maxRecDepth 100000 in
theorem tL_22_ok : tL_22.all (fun q => decide (decode cL_law q.1 = .ok (q.2.1, q.2.2))) = true := by decide +kernel
set_option maxRecDepth 100000 in
theorem dL_law_1830 : decode cL_law 1830 = .ok (.iaload, 1) := of_decide_eq_true (List.all_eq_true.mp tL_22_ok (1830, .iaload, 1) (List.mem_of_getElem? (i := 0) rfl))
set_option maxRecDepth 100000 in
theorem dL_law_1831 : decode cL_law 1831 = .ok (.i2l, 1) := of_decide_eq_true (List.all_eq_true.mp tL_22_ok (1831, .i2l, 1) (List.mem_of_getElem? (i := 1) rfl))
set_option maxRecDepth 100000 in
theorem dL_law_1832 : decode cL_law 1832 = .ok (.ldc2_w 202, 3) := of_decide_eq_true (List.all_eq_true.mp tL_22_ok (1832, .ldc2_w 202, 3) (List.mem_of_getElem? (i := 2) rfl))
set_option maxRecDepth 100000 in
theorem dL_law_1835 : decode cL_law 1835 = .ok (.land, 1) := of_decide_eq_true (List.all_eq_true.mp tL_22_ok (1835, .land, 1) (List.mem_of_getElem? (i := 3) rfl))
set_option maxRecDepth 100000 in
theorem dL_law_1836 : decode cL_law 1836 = .ok (.lor, 1) := of_decide_eq_true (List.all_eq_true.mp tL_22_ok (1836, .lor, 1) (List.mem_of_getElem? (i := 4) rfl))
set_option maxRecDepth 100000 in
theorem dL_law_1837 : decode cL_law 1837 = .ok (.aload_n 0, 1) := of_decide_eq_true (List.all_eq_true.mp tL_22_ok (1837, .aload_n 0, 1) (List.mem_of_getElem? (i := 5) rfl))
set_option maxRecDepth 100000 in
theorem dL_law_1838 : decode cL_law 1838 = .ok (.iload 4, 2) := of_decide_eq_true (List.all_eq_true.mp tL_22_ok (1838, .iload 4, 2) (List.mem_of_getElem? (i := 6) rfl))
set_option maxRecDepth 100000 in
theorem dL_law_1840 : decode cL_law 1840 = .ok (.iconst 3, 1) := of_decide_eq_true (List.all_eq_true.mp tL_22_ok (1840, .iconst 3, 1) (List.mem_of_getElem? (i := 7) rfl))
set_option maxRecDepth 100000 in
theorem dL_law_1841 : decode cL_law 1841 = .ok (.iadd, 1) := of_decide_eq_true (List.all_eq_true.mp tL_22_ok (1841, .iadd, 1) (List.mem_of_getElem? (i := 8) rfl))
set_option maxRecDepth 100000 in
theorem dL_law_1842 : decode cL_law 1842 = .ok (.iaload, 1) := of_decide_eq_true (List.all_eq_true.mp tL_22_ok (1842, .iaload, 1) (List.mem_of_getElem? (i := 9) rfl))
set_option maxRecDepth 100000 in
theorem dL_law_1843 : decode cL_law 1843 = .ok (.invokevirtual 211, 3) := of_decide_eq_true (List.all_eq_true.mp tL_22_ok (1843, .invokevirtual 211, 3) (List.mem_of_getElem? (i := 10) rfl))
set_option maxRecDepth 100000 in
theorem dL_law_1846 : decode cL_law 1846 = .ok (.istore 6, 2) := of_decide_eq_true (List.all_eq_true.mp tL_22_ok (1846, .istore 6, 2) (List.mem_of_getElem? (i := 11) rfl))
set_option maxRecDepth 100000 in
theorem dL_law_1848 : decode cL_law 1848 = .ok (.aload_n 2, 1) := of_decide_eq_true (List.all_eq_true.mp tL_22_ok (1848, .aload_n 2, 1) (List.mem_of_getElem? (i := 12) rfl))
set_option maxRecDepth 100000 in
theorem dL_law_1849 : decode cL_law 1849 = .ok (.invokevirtual 118, 3) := of_decide_eq_true (List.all_eq_true.mp tL_22_ok (1849, .invokevirtual 118, 3) (List.mem_of_getElem? (i := 13) rfl))
set_option maxRecDepth 100000 in
theorem dL_law_1852 : decode cL_law 1852 = .ok (.iload 5, 2) := of_decide_eq_true (List.all_eq_true.mp tL_22_ok (1852, .iload 5, 2) (List.mem_of_getElem? (i := 14) rfl))
set_option maxRecDepth 100000 in
theorem dL_law_1854 : decode cL_law 1854 = .ok (.if_icmp .eq 5, 3) := of_decide_eq_true (List.all_eq_true.mp tL_22_ok (1854, .if_icmp .eq 5, 3) (List.mem_of_getElem? (i := 15) rfl))
set_option maxRecDepth 100000 in
theorem dL_law_1857 : decode cL_law 1857 = .ok (.iconst 0, 1) := of_decide_eq_true (List.all_eq_true.mp tL_22_ok (1857, .iconst 0, 1) (List.mem_of_getElem? (i := 16) rfl))
set_option maxRecDepth 100000 in
theorem dL_law_1858 : decode cL_law 1858 = .ok (.ireturn, 1) := of_decide_eq_true (List.all_eq_true.mp tL_22_ok (1858, .ireturn, 1) (List.mem_of_getElem? (i := 17) rfl))
set_option maxRecDepth 100000 in
theorem dL_law_1859 : decode cL_law 1859 = .ok (.iload 5, 2) := of_decide_eq_true (List.all_eq_true.mp tL_22_ok (1859, .iload 5, 2) (List.mem_of_getElem? (i := 18) rfl))
set_option maxRecDepth 100000 in
theorem dL_law_1861 : decode cL_law 1861 = .ok (.ifCond .ne 15, 3) := of_decide_eq_true (List.all_eq_true.mp tL_22_ok (1861, .ifCond .ne 15, 3) (List.mem_of_getElem? (i := 19) rfl))
set_option maxRecDepth 100000 in
theorem dL_law_1864 : decode cL_law 1864 = .ok (.aload_n 3, 1) := of_decide_eq_true (List.all_eq_true.mp tL_22_ok (1864, .aload_n 3, 1) (List.mem_of_getElem? (i := 20) rfl))
set_option maxRecDepth 100000 in
theorem dL_law_1865 : decode cL_law 1865 = .ok (.iconst 0, 1) := of_decide_eq_true (List.all_eq_true.mp tL_22_ok (1865, .iconst 0, 1) (List.mem_of_getElem? (i := 21) rfl))
set_option maxRecDepth 100000 in
theorem dL_law_1866 : decode cL_law 1866 = .ok (.laload, 1) := of_decide_eq_true (List.all_eq_true.mp tL_22_ok (1866, .laload, 1) (List.mem_of_getElem? (i := 22) rfl))
set_option maxRecDepth 100000 in
theorem dL_law_1867 : decode cL_law 1867 = .ok (.iload 6, 2) := of_decide_eq_true (List.all_eq_true.mp tL_22_ok (1867, .iload 6, 2) (List.mem_of_getElem? (i := 23) rfl))
set_option maxRecDepth 100000 in
theorem dL_law_1869 : decode cL_law 1869 = .ok (.i2l, 1) := of_decide_eq_true (List.all_eq_true.mp tL_22_ok (1869, .i2l, 1) (List.mem_of_getElem? (i := 24) rfl))
set_option maxRecDepth 100000 in
theorem dL_law_1870 : decode cL_law 1870 = .ok (.lcmp, 1) := of_decide_eq_true (List.all_eq_true.mp tL_22_ok (1870, .lcmp, 1) (List.mem_of_getElem? (i := 25) rfl))
set_option maxRecDepth 100000 in
theorem dL_law_1871 : decode cL_law 1871 = .ok (.ifCond .eq 5, 3) := of_decide_eq_true (List.all_eq_true.mp tL_22_ok (1871, .ifCond .eq 5, 3) (List.mem_of_getElem? (i := 26) rfl))
set_option maxRecDepth 100000 in
theorem dL_law_1874 : decode cL_law 1874 = .ok (.iconst 0, 1) := of_decide_eq_true (List.all_eq_true.mp tL_22_ok (1874, .iconst 0, 1) (List.mem_of_getElem? (i := 27) rfl))
set_option maxRecDepth 100000 in
theorem dL_law_1875 : decode cL_law 1875 = .ok (.ireturn, 1) := of_decide_eq_true (List.all_eq_true.mp tL_22_ok (1875, .ireturn, 1) (List.mem_of_getElem? (i := 28) rfl))
set_option maxRecDepth 100000 in
theorem dL_law_1876 : decode cL_law 1876 = .ok (.goto 115, 3) := of_decide_eq_true (List.all_eq_true.mp tL_22_ok (1876, .goto 115, 3) (List.mem_of_getElem? (i := 29) rfl))
