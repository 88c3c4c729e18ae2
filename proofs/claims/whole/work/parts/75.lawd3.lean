/-! printed: the law's cases 24 to 31, decoded; their words -/
theorem dL_law_1559 : decode cL_law 1559 = .ok (.aload_n 1, 1) := by decide +kernel
theorem dL_law_1560 : decode cL_law 1560 = .ok (.invokevirtual 239, 3) := by decide +kernel
theorem dL_law_1563 : decode cL_law 1563 = .ok (.aload_n 2, 1) := by decide +kernel
theorem dL_law_1564 : decode cL_law 1564 = .ok (.invokevirtual 242, 3) := by decide +kernel
theorem dL_law_1567 : decode cL_law 1567 = .ok (.if_icmp .eq 1695, 3) := by decide +kernel
theorem dL_law_1572 : decode cL_law 1572 = .ok (.aload_n 1, 1) := by decide +kernel
theorem dL_law_1573 : decode cL_law 1573 = .ok (.invokevirtual 243, 3) := by decide +kernel
theorem dL_law_1576 : decode cL_law 1576 = .ok (.aload_n 2, 1) := by decide +kernel
theorem dL_law_1577 : decode cL_law 1577 = .ok (.invokevirtual 246, 3) := by decide +kernel
theorem dL_law_1580 : decode cL_law 1580 = .ok (.if_icmp .eq 1682, 3) := by decide +kernel
theorem dL_law_1585 : decode cL_law 1585 = .ok (.aload_n 1, 1) := by decide +kernel
theorem dL_law_1586 : decode cL_law 1586 = .ok (.invokevirtual 247, 3) := by decide +kernel
theorem dL_law_1589 : decode cL_law 1589 = .ok (.aload_n 2, 1) := by decide +kernel
theorem dL_law_1590 : decode cL_law 1590 = .ok (.invokevirtual 251, 3) := by decide +kernel
theorem dL_law_1593 : decode cL_law 1593 = .ok (.if_icmp .eq 1669, 3) := by decide +kernel
theorem dL_law_1598 : decode cL_law 1598 = .ok (.aload_n 1, 1) := by decide +kernel
theorem dL_law_1599 : decode cL_law 1599 = .ok (.invokevirtual 252, 3) := by decide +kernel
theorem dL_law_1602 : decode cL_law 1602 = .ok (.aload_n 2, 1) := by decide +kernel
theorem dL_law_1603 : decode cL_law 1603 = .ok (.invokevirtual 255, 3) := by decide +kernel
theorem dL_law_1606 : decode cL_law 1606 = .ok (.if_icmp .eq 1656, 3) := by decide +kernel
theorem dL_law_1611 : decode cL_law 1611 = .ok (.aload_n 1, 1) := by decide +kernel
theorem dL_law_1612 : decode cL_law 1612 = .ok (.invokevirtual 256, 3) := by decide +kernel
theorem dL_law_1615 : decode cL_law 1615 = .ok (.aload_n 2, 1) := by decide +kernel
theorem dL_law_1616 : decode cL_law 1616 = .ok (.invokevirtual 259, 3) := by decide +kernel
theorem dL_law_1619 : decode cL_law 1619 = .ok (.if_icmp .eq 1643, 3) := by decide +kernel
theorem dL_law_1624 : decode cL_law 1624 = .ok (.aload_n 1, 1) := by decide +kernel
theorem dL_law_1625 : decode cL_law 1625 = .ok (.aload_n 0, 1) := by decide +kernel
theorem dL_law_1626 : decode cL_law 1626 = .ok (.iload 4, 2) := by decide +kernel
theorem dL_law_1628 : decode cL_law 1628 = .ok (.iconst 1, 1) := by decide +kernel
theorem dL_law_1629 : decode cL_law 1629 = .ok (.iadd, 1) := by decide +kernel
theorem dL_law_1630 : decode cL_law 1630 = .ok (.iaload, 1) := by decide +kernel
theorem dL_law_1631 : decode cL_law 1631 = .ok (.aload_n 3, 1) := by decide +kernel
theorem dL_law_1632 : decode cL_law 1632 = .ok (.invokestatic 260, 3) := by decide +kernel
theorem dL_law_1635 : decode cL_law 1635 = .ok (.istore 5, 2) := by decide +kernel
theorem dL_law_1637 : decode cL_law 1637 = .ok (.aload_n 2, 1) := by decide +kernel
theorem dL_law_1638 : decode cL_law 1638 = .ok (.aload_n 0, 1) := by decide +kernel
theorem dL_law_1639 : decode cL_law 1639 = .ok (.iload 4, 2) := by decide +kernel
theorem dL_law_1641 : decode cL_law 1641 = .ok (.iconst 1, 1) := by decide +kernel
theorem dL_law_1642 : decode cL_law 1642 = .ok (.iadd, 1) := by decide +kernel
theorem dL_law_1643 : decode cL_law 1643 = .ok (.iaload, 1) := by decide +kernel
theorem dL_law_1644 : decode cL_law 1644 = .ok (.invokevirtual 262, 3) := by decide +kernel
theorem dL_law_1647 : decode cL_law 1647 = .ok (.istore 6, 2) := by decide +kernel
theorem dL_law_1649 : decode cL_law 1649 = .ok (.aload_n 2, 1) := by decide +kernel
theorem dL_law_1650 : decode cL_law 1650 = .ok (.invokevirtual 161, 3) := by decide +kernel
theorem dL_law_1653 : decode cL_law 1653 = .ok (.iload 5, 2) := by decide +kernel
theorem dL_law_1655 : decode cL_law 1655 = .ok (.if_icmp .eq 5, 3) := by decide +kernel
theorem dL_law_1660 : decode cL_law 1660 = .ok (.iload 5, 2) := by decide +kernel
theorem dL_law_1662 : decode cL_law 1662 = .ok (.ifCond .ne 15, 3) := by decide +kernel
theorem dL_law_1665 : decode cL_law 1665 = .ok (.aload_n 3, 1) := by decide +kernel
theorem dL_law_1666 : decode cL_law 1666 = .ok (.iconst 0, 1) := by decide +kernel
theorem dL_law_1667 : decode cL_law 1667 = .ok (.laload, 1) := by decide +kernel
theorem dL_law_1668 : decode cL_law 1668 = .ok (.iload 6, 2) := by decide +kernel
theorem dL_law_1670 : decode cL_law 1670 = .ok (.i2l, 1) := by decide +kernel
theorem dL_law_1671 : decode cL_law 1671 = .ok (.lcmp, 1) := by decide +kernel
theorem dL_law_1672 : decode cL_law 1672 = .ok (.ifCond .eq 5, 3) := by decide +kernel
theorem dL_law_1677 : decode cL_law 1677 = .ok (.goto 1585, 3) := by decide +kernel
theorem dL_law_1680 : decode cL_law 1680 = .ok (.aload_n 1, 1) := by decide +kernel
theorem dL_law_1681 : decode cL_law 1681 = .ok (.aload_n 0, 1) := by decide +kernel
theorem dL_law_1682 : decode cL_law 1682 = .ok (.iload 4, 2) := by decide +kernel
theorem dL_law_1684 : decode cL_law 1684 = .ok (.iconst 1, 1) := by decide +kernel
theorem dL_law_1685 : decode cL_law 1685 = .ok (.iadd, 1) := by decide +kernel
theorem dL_law_1686 : decode cL_law 1686 = .ok (.iaload, 1) := by decide +kernel
theorem dL_law_1687 : decode cL_law 1687 = .ok (.aload_n 3, 1) := by decide +kernel
theorem dL_law_1688 : decode cL_law 1688 = .ok (.invokestatic 263, 3) := by decide +kernel
theorem dL_law_1691 : decode cL_law 1691 = .ok (.istore 5, 2) := by decide +kernel
theorem dL_law_1693 : decode cL_law 1693 = .ok (.aload_n 2, 1) := by decide +kernel
theorem dL_law_1694 : decode cL_law 1694 = .ok (.aload_n 0, 1) := by decide +kernel
theorem dL_law_1695 : decode cL_law 1695 = .ok (.iload 4, 2) := by decide +kernel
theorem dL_law_1697 : decode cL_law 1697 = .ok (.iconst 1, 1) := by decide +kernel
theorem dL_law_1698 : decode cL_law 1698 = .ok (.iadd, 1) := by decide +kernel
theorem dL_law_1699 : decode cL_law 1699 = .ok (.iaload, 1) := by decide +kernel
theorem dL_law_1700 : decode cL_law 1700 = .ok (.invokevirtual 265, 3) := by decide +kernel
theorem dL_law_1703 : decode cL_law 1703 = .ok (.istore 6, 2) := by decide +kernel
theorem dL_law_1705 : decode cL_law 1705 = .ok (.aload_n 2, 1) := by decide +kernel
theorem dL_law_1706 : decode cL_law 1706 = .ok (.invokevirtual 161, 3) := by decide +kernel
theorem dL_law_1709 : decode cL_law 1709 = .ok (.iload 5, 2) := by decide +kernel
theorem dL_law_1711 : decode cL_law 1711 = .ok (.if_icmp .eq 5, 3) := by decide +kernel
theorem dL_law_1716 : decode cL_law 1716 = .ok (.iload 5, 2) := by decide +kernel
theorem dL_law_1718 : decode cL_law 1718 = .ok (.ifCond .ne 22, 3) := by decide +kernel
theorem dL_law_1721 : decode cL_law 1721 = .ok (.aload_n 3, 1) := by decide +kernel
theorem dL_law_1722 : decode cL_law 1722 = .ok (.iconst 0, 1) := by decide +kernel
theorem dL_law_1723 : decode cL_law 1723 = .ok (.laload, 1) := by decide +kernel
theorem dL_law_1724 : decode cL_law 1724 = .ok (.iload 6, 2) := by decide +kernel
theorem dL_law_1726 : decode cL_law 1726 = .ok (.ifCond .eq 7, 3) := by decide +kernel
theorem dL_law_1729 : decode cL_law 1729 = .ok (.lconst 1, 1) := by decide +kernel
theorem dL_law_1730 : decode cL_law 1730 = .ok (.goto 4, 3) := by decide +kernel
theorem dL_law_1733 : decode cL_law 1733 = .ok (.lconst 0, 1) := by decide +kernel
theorem dL_law_1734 : decode cL_law 1734 = .ok (.lcmp, 1) := by decide +kernel
theorem dL_law_1735 : decode cL_law 1735 = .ok (.ifCond .eq 5, 3) := by decide +kernel
theorem dL_law_1740 : decode cL_law 1740 = .ok (.goto 1522, 3) := by decide +kernel
theorem dL_law_1743 : decode cL_law 1743 = .ok (.aload_n 1, 1) := by decide +kernel
theorem dL_law_1744 : decode cL_law 1744 = .ok (.aload_n 0, 1) := by decide +kernel
theorem dL_law_1745 : decode cL_law 1745 = .ok (.iload 4, 2) := by decide +kernel
theorem dL_law_1747 : decode cL_law 1747 = .ok (.iconst 1, 1) := by decide +kernel
theorem dL_law_1748 : decode cL_law 1748 = .ok (.iadd, 1) := by decide +kernel
theorem dL_law_1749 : decode cL_law 1749 = .ok (.iaload, 1) := by decide +kernel
theorem dL_law_1750 : decode cL_law 1750 = .ok (.aload_n 3, 1) := by decide +kernel
theorem dL_law_1751 : decode cL_law 1751 = .ok (.invokestatic 266, 3) := by decide +kernel
theorem dL_law_1754 : decode cL_law 1754 = .ok (.istore 5, 2) := by decide +kernel
theorem dL_law_1756 : decode cL_law 1756 = .ok (.aload_n 2, 1) := by decide +kernel
theorem dL_law_1757 : decode cL_law 1757 = .ok (.aload_n 0, 1) := by decide +kernel
theorem dL_law_1758 : decode cL_law 1758 = .ok (.iload 4, 2) := by decide +kernel
theorem dL_law_1760 : decode cL_law 1760 = .ok (.iconst 1, 1) := by decide +kernel
theorem dL_law_1761 : decode cL_law 1761 = .ok (.iadd, 1) := by decide +kernel
theorem dL_law_1762 : decode cL_law 1762 = .ok (.iaload, 1) := by decide +kernel
theorem dL_law_1763 : decode cL_law 1763 = .ok (.invokevirtual 268, 3) := by decide +kernel
theorem dL_law_1766 : decode cL_law 1766 = .ok (.istore 6, 2) := by decide +kernel
theorem dL_law_1768 : decode cL_law 1768 = .ok (.aload_n 2, 1) := by decide +kernel
theorem dL_law_1769 : decode cL_law 1769 = .ok (.invokevirtual 161, 3) := by decide +kernel
theorem dL_law_1772 : decode cL_law 1772 = .ok (.iload 5, 2) := by decide +kernel
theorem dL_law_1774 : decode cL_law 1774 = .ok (.if_icmp .eq 5, 3) := by decide +kernel
theorem dL_law_1779 : decode cL_law 1779 = .ok (.iload 5, 2) := by decide +kernel
theorem dL_law_1781 : decode cL_law 1781 = .ok (.ifCond .ne 15, 3) := by decide +kernel
theorem dL_law_1784 : decode cL_law 1784 = .ok (.aload_n 3, 1) := by decide +kernel
theorem dL_law_1785 : decode cL_law 1785 = .ok (.iconst 0, 1) := by decide +kernel
theorem dL_law_1786 : decode cL_law 1786 = .ok (.laload, 1) := by decide +kernel
theorem dL_law_1787 : decode cL_law 1787 = .ok (.iload 6, 2) := by decide +kernel
theorem dL_law_1789 : decode cL_law 1789 = .ok (.i2l, 1) := by decide +kernel
theorem dL_law_1790 : decode cL_law 1790 = .ok (.lcmp, 1) := by decide +kernel
theorem dL_law_1791 : decode cL_law 1791 = .ok (.ifCond .eq 5, 3) := by decide +kernel
theorem dL_law_1796 : decode cL_law 1796 = .ok (.goto 1466, 3) := by decide +kernel
theorem lo_time {σ τ : Sig} (h : Rl σ τ) : OKp σ (f11_time σ) (f12_time τ) := by
  have e1 : xg σ 8 (σ 9) = σ := xg_self σ 8
  have e2 : mr τ (τ 0 1) = τ := mr_self τ
  have q := ok_time (σ := σ) (τ := τ) (G := σ 9) (w := τ 0 1) (by rw [e1, e2]; exact h)
  rw [e1, e2] at q
  exact q
theorem mz_239 : MWv RL 239 yX11_time cX11_time 1 (some .int) 0 := ⟨gw_t (tin4 (List.mem_of_getElem? (i := 123) rfl)) rfl, gw_t (tin4 (List.mem_of_getElem? (i := 124) rfl)) rfl, gw_t (tin4 (List.mem_of_getElem? (i := 125) rfl)) rfl, gw_t (tin1 (List.mem_of_getElem? (i := 1) rfl)) rfl, gw_t (tin4 (List.mem_of_getElem? (i := 126) rfl)) rfl, by decide, by decide, by decide +kernel⟩
theorem mz_242 : MWv RL 242 yX12_time cX12_time 1 (some .int) 0 := ⟨gw_t (tin8 (List.mem_of_getElem? (i := 226) rfl)) rfl, gw_t (tin8 (List.mem_of_getElem? (i := 227) rfl)) rfl, gw_t (tin8 (List.mem_of_getElem? (i := 228) rfl)) rfl, gw_t (tin1 (List.mem_of_getElem? (i := 19) rfl)) rfl, gw_t (tin8 (List.mem_of_getElem? (i := 229) rfl)) rfl, by decide, by decide, by decide +kernel⟩
theorem lo_day {σ τ : Sig} (h : Rl σ τ) : OKp σ (f11_day σ) (f12_day τ) := by
  have e1 : xg σ 8 (σ 9) = σ := xg_self σ 8
  have e2 : mr τ (τ 0 1) = τ := mr_self τ
  have q := ok_day (σ := σ) (τ := τ) (G := σ 9) (w := τ 0 1) (by rw [e1, e2]; exact h)
  rw [e1, e2] at q
  exact q
theorem mz_243 : MWv RL 243 yX11_day cX11_day 1 (some .int) 0 := ⟨gw_t (tin4 (List.mem_of_getElem? (i := 127) rfl)) rfl, gw_t (tin4 (List.mem_of_getElem? (i := 128) rfl)) rfl, gw_t (tin4 (List.mem_of_getElem? (i := 129) rfl)) rfl, gw_t (tin1 (List.mem_of_getElem? (i := 1) rfl)) rfl, gw_t (tin4 (List.mem_of_getElem? (i := 130) rfl)) rfl, by decide, by decide, by decide +kernel⟩
theorem mz_246 : MWv RL 246 yX12_day cX12_day 1 (some .int) 0 := ⟨gw_t (tin8 (List.mem_of_getElem? (i := 234) rfl)) rfl, gw_t (tin8 (List.mem_of_getElem? (i := 235) rfl)) rfl, gw_t (tin8 (List.mem_of_getElem? (i := 236) rfl)) rfl, gw_t (tin1 (List.mem_of_getElem? (i := 19) rfl)) rfl, gw_t (tin8 (List.mem_of_getElem? (i := 237) rfl)) rfl, by decide, by decide, by decide +kernel⟩
theorem lo_isOpen {σ τ : Sig} (h : Rl σ τ) : OKp σ (f11_isOpen σ) (f12_isOpen τ) := by
  have e1 : xg σ 8 (σ 9) = σ := xg_self σ 8
  have e2 : mr τ (τ 0 1) = τ := mr_self τ
  have q := ok_isOpen (σ := σ) (τ := τ) (G := σ 9) (w := τ 0 1) (by rw [e1, e2]; exact h)
  rw [e1, e2] at q
  exact q
theorem mz_247 : MWv RL 247 yX11_isOpen cX11_isOpen 1 (some .boolean) 0 := ⟨gw_t (tin4 (List.mem_of_getElem? (i := 132) rfl)) rfl, gw_t (tin4 (List.mem_of_getElem? (i := 133) rfl)) rfl, gw_t (tin4 (List.mem_of_getElem? (i := 134) rfl)) rfl, gw_t (tin1 (List.mem_of_getElem? (i := 1) rfl)) rfl, gw_t (tin4 (List.mem_of_getElem? (i := 135) rfl)) rfl, by decide, by decide, by decide +kernel⟩
theorem mz_251 : MWv RL 251 yX12_isOpen cX12_isOpen 1 (some .boolean) 0 := ⟨gw_t (tin8 (List.mem_of_getElem? (i := 238) rfl)) rfl, gw_t (tin8 (List.mem_of_getElem? (i := 239) rfl)) rfl, gw_t (tin9 (List.mem_of_getElem? (i := 0) rfl)) rfl, gw_t (tin1 (List.mem_of_getElem? (i := 19) rfl)) rfl, gw_t (tin9 (List.mem_of_getElem? (i := 1) rfl)) rfl, by decide, by decide, by decide +kernel⟩
theorem lo_ticksUntilOpen {σ τ : Sig} (h : Rl σ τ) : OKp σ (f11_ticksUntilOpen σ) (f12_ticksUntilOpen τ) := by
  have e1 : xg σ 8 (σ 9) = σ := xg_self σ 8
  have e2 : mr τ (τ 0 1) = τ := mr_self τ
  have q := ok_ticksUntilOpen (σ := σ) (τ := τ) (G := σ 9) (w := τ 0 1) (by rw [e1, e2]; exact h)
  rw [e1, e2] at q
  exact q
theorem mz_252 : MWv RL 252 yX11_ticksUntilOpen cX11_ticksUntilOpen 1 (some .int) 0 := ⟨gw_t (tin4 (List.mem_of_getElem? (i := 138) rfl)) rfl, gw_t (tin4 (List.mem_of_getElem? (i := 139) rfl)) rfl, gw_t (tin4 (List.mem_of_getElem? (i := 140) rfl)) rfl, gw_t (tin1 (List.mem_of_getElem? (i := 1) rfl)) rfl, gw_t (tin4 (List.mem_of_getElem? (i := 141) rfl)) rfl, by decide, by decide, by decide +kernel⟩
theorem mz_255 : MWv RL 255 yX12_ticksUntilOpen cX12_ticksUntilOpen 2 (some .int) 0 := ⟨gw_t (tin9 (List.mem_of_getElem? (i := 2) rfl)) rfl, gw_t (tin9 (List.mem_of_getElem? (i := 3) rfl)) rfl, gw_t (tin9 (List.mem_of_getElem? (i := 4) rfl)) rfl, gw_t (tin1 (List.mem_of_getElem? (i := 19) rfl)) rfl, gw_t (tin9 (List.mem_of_getElem? (i := 5) rfl)) rfl, by decide, by decide, by decide +kernel⟩
theorem lo_bedCount {σ τ : Sig} (h : Rl σ τ) : OKp σ (f11_bedCount σ) (f12_bedCount τ) := by
  have e1 : xg σ 8 (σ 9) = σ := xg_self σ 8
  have e2 : mr τ (τ 0 1) = τ := mr_self τ
  have q := ok_bedCount (σ := σ) (τ := τ) (G := σ 9) (w := τ 0 1) (by rw [e1, e2]; exact h)
  rw [e1, e2] at q
  exact q
theorem mz_256 : MWv RL 256 yX11_bedCount cX11_bedCount 1 (some .int) 0 := ⟨gw_t (tin4 (List.mem_of_getElem? (i := 147) rfl)) rfl, gw_t (tin4 (List.mem_of_getElem? (i := 148) rfl)) rfl, gw_t (tin4 (List.mem_of_getElem? (i := 149) rfl)) rfl, gw_t (tin1 (List.mem_of_getElem? (i := 1) rfl)) rfl, gw_t (tin4 (List.mem_of_getElem? (i := 150) rfl)) rfl, by decide, by decide, by decide +kernel⟩
theorem mz_259 : MWv RL 259 yX12_bedCount cX12_bedCount 1 (some .int) 0 := ⟨gw_t (tin9 (List.mem_of_getElem? (i := 6) rfl)) rfl, gw_t (tin9 (List.mem_of_getElem? (i := 7) rfl)) rfl, gw_t (tin9 (List.mem_of_getElem? (i := 8) rfl)) rfl, gw_t (tin1 (List.mem_of_getElem? (i := 19) rfl)) rfl, gw_t (tin9 (List.mem_of_getElem? (i := 9) rfl)) rfl, by decide, by decide, by decide +kernel⟩
theorem lo_scentOf {σ τ : Sig} (a0 : Int32) (h : Rl σ τ) : OKx [2] (f11_scentOf a0 σ) (f12_scentOf a0 τ) := by
  have e1 : xg σ 8 (σ 9) = σ := xg_self σ 8
  have e2 : mr τ (τ 0 1) = τ := mr_self τ
  have q := ok_scentOf (σ := σ) (τ := τ) (G := σ 9) (w := τ 0 1) a0 (by rw [e1, e2]; exact h)
  rw [e1, e2] at q
  exact q
theorem mz_260 : MWz 260 yL_scentOf cL_scentOf 4 [(0, 9, 12, 19)] 3 := ⟨gw_t (tin6 (List.mem_of_getElem? (i := 82) rfl)) rfl, gw_t (tin6 (List.mem_of_getElem? (i := 83) rfl)) rfl, gw_t (tin1 (List.mem_of_getElem? (i := 0) rfl)) rfl, gw_t (tin6 (List.mem_of_getElem? (i := 84) rfl)) rfl, by decide, by decide, by decide +kernel⟩
theorem mz_262 : MWv RL 262 yX12_scentOf cX12_scentOf 2 (some .int) 1 := ⟨gw_t (tin9 (List.mem_of_getElem? (i := 10) rfl)) rfl, gw_t (tin9 (List.mem_of_getElem? (i := 11) rfl)) rfl, gw_t (tin9 (List.mem_of_getElem? (i := 12) rfl)) rfl, gw_t (tin1 (List.mem_of_getElem? (i := 19) rfl)) rfl, gw_t (tin9 (List.mem_of_getElem? (i := 13) rfl)) rfl, by decide, by decide, by decide +kernel⟩
theorem lo_isInSeason {σ τ : Sig} (a0 : Int32) (h : Rl σ τ) : OKx [2] (f11_isInSeason a0 σ) (f12_isInSeason a0 τ) := by
  have e1 : xg σ 8 (σ 9) = σ := xg_self σ 8
  have e2 : mr τ (τ 0 1) = τ := mr_self τ
  have q := ok_isInSeason (σ := σ) (τ := τ) (G := σ 9) (w := τ 0 1) a0 (by rw [e1, e2]; exact h)
  rw [e1, e2] at q
  exact q
theorem mz_263 : MWz 263 yL_isInSeason cL_isInSeason 4 [(0, 16, 19, 19)] 3 := ⟨gw_t (tin6 (List.mem_of_getElem? (i := 89) rfl)) rfl, gw_t (tin6 (List.mem_of_getElem? (i := 90) rfl)) rfl, gw_t (tin1 (List.mem_of_getElem? (i := 0) rfl)) rfl, gw_t (tin6 (List.mem_of_getElem? (i := 91) rfl)) rfl, by decide, by decide, by decide +kernel⟩
theorem mz_265 : MWv RL 265 yX12_isInSeason cX12_isInSeason 2 (some .boolean) 1 := ⟨gw_t (tin9 (List.mem_of_getElem? (i := 18) rfl)) rfl, gw_t (tin9 (List.mem_of_getElem? (i := 19) rfl)) rfl, gw_t (tin9 (List.mem_of_getElem? (i := 20) rfl)) rfl, gw_t (tin1 (List.mem_of_getElem? (i := 19) rfl)) rfl, gw_t (tin9 (List.mem_of_getElem? (i := 21) rfl)) rfl, by decide, by decide, by decide +kernel⟩
theorem lo_blooms {σ τ : Sig} (a0 : Int32) (h : Rl σ τ) : OKx [2] (f11_blooms a0 σ) (f12_blooms a0 τ) := by
  have e1 : xg σ 8 (σ 9) = σ := xg_self σ 8
  have e2 : mr τ (τ 0 1) = τ := mr_self τ
  have q := ok_blooms (σ := σ) (τ := τ) (G := σ 9) (w := τ 0 1) a0 (by rw [e1, e2]; exact h)
  rw [e1, e2] at q
  exact q
theorem mz_266 : MWz 266 yL_blooms cL_blooms 4 [(0, 9, 12, 19)] 3 := ⟨gw_t (tin6 (List.mem_of_getElem? (i := 97) rfl)) rfl, gw_t (tin6 (List.mem_of_getElem? (i := 98) rfl)) rfl, gw_t (tin1 (List.mem_of_getElem? (i := 0) rfl)) rfl, gw_t (tin6 (List.mem_of_getElem? (i := 99) rfl)) rfl, by decide, by decide, by decide +kernel⟩
theorem mz_268 : MWv RL 268 yX12_blooms cX12_blooms 2 (some .int) 1 := ⟨gw_t (tin9 (List.mem_of_getElem? (i := 22) rfl)) rfl, gw_t (tin9 (List.mem_of_getElem? (i := 23) rfl)) rfl, gw_t (tin9 (List.mem_of_getElem? (i := 24) rfl)) rfl, gw_t (tin1 (List.mem_of_getElem? (i := 19) rfl)) rfl, gw_t (tin9 (List.mem_of_getElem? (i := 25) rfl)) rfl, by decide, by decide, by decide +kernel⟩
