/-! the law: calls 36 to 42 -/
theorem dL_law_1646 : decode cL_law 1646 = .ok (.aload_n 1, 1) := by decide +kernel
theorem dL_law_1647 : decode cL_law 1647 = .ok (.aload_n 0, 1) := by decide +kernel
theorem dL_law_1648 : decode cL_law 1648 = .ok (.iload_n 3, 1) := by decide +kernel
theorem dL_law_1649 : decode cL_law 1649 = .ok (.iconst 1, 1) := by decide +kernel
theorem dL_law_1650 : decode cL_law 1650 = .ok (.iadd, 1) := by decide +kernel
theorem dL_law_1651 : decode cL_law 1651 = .ok (.iaload, 1) := by decide +kernel
theorem dL_law_1652 : decode cL_law 1652 = .ok (.aload_n 0, 1) := by decide +kernel
theorem dL_law_1653 : decode cL_law 1653 = .ok (.iload_n 3, 1) := by decide +kernel
theorem dL_law_1654 : decode cL_law 1654 = .ok (.iconst 2, 1) := by decide +kernel
theorem dL_law_1655 : decode cL_law 1655 = .ok (.iadd, 1) := by decide +kernel
theorem dL_law_1656 : decode cL_law 1656 = .ok (.iaload, 1) := by decide +kernel
theorem dL_law_1657 : decode cL_law 1657 = .ok (.invokevirtual 169, 3) := by decide +kernel
theorem dL_law_1660 : decode cL_law 1660 = .ok (.aload_n 2, 1) := by decide +kernel
theorem dL_law_1661 : decode cL_law 1661 = .ok (.aload_n 0, 1) := by decide +kernel
theorem dL_law_1662 : decode cL_law 1662 = .ok (.iload_n 3, 1) := by decide +kernel
theorem dL_law_1663 : decode cL_law 1663 = .ok (.iconst 1, 1) := by decide +kernel
theorem dL_law_1664 : decode cL_law 1664 = .ok (.iadd, 1) := by decide +kernel
theorem dL_law_1665 : decode cL_law 1665 = .ok (.iaload, 1) := by decide +kernel
theorem dL_law_1666 : decode cL_law 1666 = .ok (.aload_n 0, 1) := by decide +kernel
theorem dL_law_1667 : decode cL_law 1667 = .ok (.iload_n 3, 1) := by decide +kernel
theorem dL_law_1668 : decode cL_law 1668 = .ok (.iconst 2, 1) := by decide +kernel
theorem dL_law_1669 : decode cL_law 1669 = .ok (.iadd, 1) := by decide +kernel
theorem dL_law_1670 : decode cL_law 1670 = .ok (.iaload, 1) := by decide +kernel
theorem dL_law_1671 : decode cL_law 1671 = .ok (.invokevirtual 172, 3) := by decide +kernel
theorem dL_law_1674 : decode cL_law 1674 = .ok (.if_icmp .eq 405, 3) := by decide +kernel
set_option maxHeartbeats 400000 in
set_option maxRecDepth 20000 in
theorem law_36 {E : EV} (hE : EOK E) {q v0 : Nat} (hXS : EXS E q v0) {X : TX} {b L : Nat} {xs : Nat → Int32} (h : CX E X cL_law RL ret room_1 4) (hX : LX X b L xs) (hL : L ≤ 3072) {z : Int} (h0 : 0 ≤ z) (h1 : z ≤ L - 6) {A : AS} (K : ∀ A2 : AS, JL E (LQP E) X 2079 [(3, .int (iI z)), (2, eA E 76), (1, eA E 74), (0, .ref b)] [] (A2, A2)) : JL E (LQP E) X 1646 [(3, .int (iI z)), (2, eA E 76), (1, eA E 74), (0, .ref b)] [] (A, A) := by
  refine j_aload_n h 2 dL_law_1646 rfl rfl ?_
  refine j_aload_n h 3 dL_law_1647 rfl rfl ?_
  refine j_iload_n h 0 dL_law_1648 rfl rfl ?_
  refine j_iconst h dL_law_1649 ?_
  refine j_iadd h dL_law_1650 ?_
  refine j_sld h hX hL (by omega) (by omega) dL_law_1651 ?_
  refine j_aload_n h 3 dL_law_1652 rfl rfl ?_
  refine j_iload_n h 0 dL_law_1653 rfl rfl ?_
  refine j_iconst h dL_law_1654 ?_
  refine j_iadd h dL_law_1655 ?_
  refine j_sld h hX hL (by omega) (by omega) dL_law_1656 ?_
  refine j_callV h (ct_L (fun g0 => p_strip hE (okI_of (xs (z + 1).toNat)) (okI_of (xs (z + 2).toNat)))) m_X3_strip a_l_L_169 rfl rfl ⟨Nat.le_of_ble_eq_true rfl, Nat.le_of_ble_eq_true rfl⟩ (ci := 3) rfl (by omega) rcL3 rfl rfl (Nat.le_of_ble_eq_true rfl) dL_law_1657 ?_
  refine j_aload_n h 1 dL_law_1660 rfl rfl ?_
  refine j_aload_n h 3 dL_law_1661 rfl rfl ?_
  refine j_iload_n h 0 dL_law_1662 rfl rfl ?_
  refine j_iconst h dL_law_1663 ?_
  refine j_iadd h dL_law_1664 ?_
  refine j_sld h hX hL (by omega) (by omega) dL_law_1665 ?_
  refine j_aload_n h 3 dL_law_1666 rfl rfl ?_
  refine j_iload_n h 0 dL_law_1667 rfl rfl ?_
  refine j_iconst h dL_law_1668 ?_
  refine j_iadd h dL_law_1669 ?_
  refine j_sld h hX hL (by omega) (by omega) dL_law_1670 ?_
  refine j_callV h (ct_R (fun g0 => q_strip hE (okI_of (xs (z + 1).toNat)) (okI_of (xs (z + 2).toNat)))) m_X4_strip a_l_L_172 rfl rfl ⟨Nat.le_of_ble_eq_true rfl, Nat.le_of_ble_eq_true rfl⟩ (ci := 4) rfl (by omega) rcL4 rfl rfl (Nat.le_of_ble_eq_true rfl) dL_law_1671 ?_
  exact j_rcmp_eq h 2079 dL_law_1674 (by decide) (fun _ => K _) (fun w => absurd rfl w)
theorem dL_law_1679 : decode cL_law 1679 = .ok (.aload_n 1, 1) := by decide +kernel
theorem dL_law_1680 : decode cL_law 1680 = .ok (.aload_n 0, 1) := by decide +kernel
theorem dL_law_1681 : decode cL_law 1681 = .ok (.iload_n 3, 1) := by decide +kernel
theorem dL_law_1682 : decode cL_law 1682 = .ok (.iconst 1, 1) := by decide +kernel
theorem dL_law_1683 : decode cL_law 1683 = .ok (.iadd, 1) := by decide +kernel
theorem dL_law_1684 : decode cL_law 1684 = .ok (.iaload, 1) := by decide +kernel
theorem dL_law_1685 : decode cL_law 1685 = .ok (.aload_n 0, 1) := by decide +kernel
theorem dL_law_1686 : decode cL_law 1686 = .ok (.iload_n 3, 1) := by decide +kernel
theorem dL_law_1687 : decode cL_law 1687 = .ok (.iconst 2, 1) := by decide +kernel
theorem dL_law_1688 : decode cL_law 1688 = .ok (.iadd, 1) := by decide +kernel
theorem dL_law_1689 : decode cL_law 1689 = .ok (.iaload, 1) := by decide +kernel
theorem dL_law_1690 : decode cL_law 1690 = .ok (.aload_n 0, 1) := by decide +kernel
theorem dL_law_1691 : decode cL_law 1691 = .ok (.iload_n 3, 1) := by decide +kernel
theorem dL_law_1692 : decode cL_law 1692 = .ok (.iconst 3, 1) := by decide +kernel
theorem dL_law_1693 : decode cL_law 1693 = .ok (.iadd, 1) := by decide +kernel
theorem dL_law_1694 : decode cL_law 1694 = .ok (.iaload, 1) := by decide +kernel
theorem dL_law_1695 : decode cL_law 1695 = .ok (.invokevirtual 173, 3) := by decide +kernel
theorem dL_law_1698 : decode cL_law 1698 = .ok (.aload_n 2, 1) := by decide +kernel
theorem dL_law_1699 : decode cL_law 1699 = .ok (.aload_n 0, 1) := by decide +kernel
theorem dL_law_1700 : decode cL_law 1700 = .ok (.iload_n 3, 1) := by decide +kernel
theorem dL_law_1701 : decode cL_law 1701 = .ok (.iconst 1, 1) := by decide +kernel
theorem dL_law_1702 : decode cL_law 1702 = .ok (.iadd, 1) := by decide +kernel
theorem dL_law_1703 : decode cL_law 1703 = .ok (.iaload, 1) := by decide +kernel
theorem dL_law_1704 : decode cL_law 1704 = .ok (.aload_n 0, 1) := by decide +kernel
theorem dL_law_1705 : decode cL_law 1705 = .ok (.iload_n 3, 1) := by decide +kernel
theorem dL_law_1706 : decode cL_law 1706 = .ok (.iconst 2, 1) := by decide +kernel
theorem dL_law_1707 : decode cL_law 1707 = .ok (.iadd, 1) := by decide +kernel
theorem dL_law_1708 : decode cL_law 1708 = .ok (.iaload, 1) := by decide +kernel
theorem dL_law_1709 : decode cL_law 1709 = .ok (.aload_n 0, 1) := by decide +kernel
theorem dL_law_1710 : decode cL_law 1710 = .ok (.iload_n 3, 1) := by decide +kernel
theorem dL_law_1711 : decode cL_law 1711 = .ok (.iconst 3, 1) := by decide +kernel
theorem dL_law_1712 : decode cL_law 1712 = .ok (.iadd, 1) := by decide +kernel
theorem dL_law_1713 : decode cL_law 1713 = .ok (.iaload, 1) := by decide +kernel
theorem dL_law_1714 : decode cL_law 1714 = .ok (.invokevirtual 176, 3) := by decide +kernel
theorem dL_law_1717 : decode cL_law 1717 = .ok (.if_icmp .eq 362, 3) := by decide +kernel
set_option maxHeartbeats 400000 in
set_option maxRecDepth 20000 in
theorem law_37 {E : EV} (hE : EOK E) {q v0 : Nat} (hXS : EXS E q v0) {X : TX} {b L : Nat} {xs : Nat → Int32} (h : CX E X cL_law RL ret room_1 4) (hX : LX X b L xs) (hL : L ≤ 3072) {z : Int} (h0 : 0 ≤ z) (h1 : z ≤ L - 6) {A : AS} (K : ∀ A2 : AS, JL E (LQP E) X 2079 [(3, .int (iI z)), (2, eA E 76), (1, eA E 74), (0, .ref b)] [] (A2, A2)) : JL E (LQP E) X 1679 [(3, .int (iI z)), (2, eA E 76), (1, eA E 74), (0, .ref b)] [] (A, A) := by
  refine j_aload_n h 2 dL_law_1679 rfl rfl ?_
  refine j_aload_n h 3 dL_law_1680 rfl rfl ?_
  refine j_iload_n h 0 dL_law_1681 rfl rfl ?_
  refine j_iconst h dL_law_1682 ?_
  refine j_iadd h dL_law_1683 ?_
  refine j_sld h hX hL (by omega) (by omega) dL_law_1684 ?_
  refine j_aload_n h 3 dL_law_1685 rfl rfl ?_
  refine j_iload_n h 0 dL_law_1686 rfl rfl ?_
  refine j_iconst h dL_law_1687 ?_
  refine j_iadd h dL_law_1688 ?_
  refine j_sld h hX hL (by omega) (by omega) dL_law_1689 ?_
  refine j_aload_n h 3 dL_law_1690 rfl rfl ?_
  refine j_iload_n h 0 dL_law_1691 rfl rfl ?_
  refine j_iconst h dL_law_1692 ?_
  refine j_iadd h dL_law_1693 ?_
  refine j_sld h hX hL (by omega) (by omega) dL_law_1694 ?_
  refine j_callV h (ct_L (fun g0 => p_repeat hE (okI_of (xs (z + 1).toNat)) (okI_of (xs (z + 2).toNat)) (okI_of (xs (z + 3).toNat)))) m_X3_repeat a_l_L_173 rfl rfl ⟨Nat.le_of_ble_eq_true rfl, Nat.le_of_ble_eq_true rfl⟩ (ci := 3) rfl (by omega) rcL3 rfl rfl (Nat.le_of_ble_eq_true rfl) dL_law_1695 ?_
  refine j_aload_n h 1 dL_law_1698 rfl rfl ?_
  refine j_aload_n h 3 dL_law_1699 rfl rfl ?_
  refine j_iload_n h 0 dL_law_1700 rfl rfl ?_
  refine j_iconst h dL_law_1701 ?_
  refine j_iadd h dL_law_1702 ?_
  refine j_sld h hX hL (by omega) (by omega) dL_law_1703 ?_
  refine j_aload_n h 3 dL_law_1704 rfl rfl ?_
  refine j_iload_n h 0 dL_law_1705 rfl rfl ?_
  refine j_iconst h dL_law_1706 ?_
  refine j_iadd h dL_law_1707 ?_
  refine j_sld h hX hL (by omega) (by omega) dL_law_1708 ?_
  refine j_aload_n h 3 dL_law_1709 rfl rfl ?_
  refine j_iload_n h 0 dL_law_1710 rfl rfl ?_
  refine j_iconst h dL_law_1711 ?_
  refine j_iadd h dL_law_1712 ?_
  refine j_sld h hX hL (by omega) (by omega) dL_law_1713 ?_
  refine j_callV h (ct_R (fun g0 => q_repeat hE (okI_of (xs (z + 1).toNat)) (okI_of (xs (z + 2).toNat)) (okI_of (xs (z + 3).toNat)))) m_X4_repeat a_l_L_176 rfl rfl ⟨Nat.le_of_ble_eq_true rfl, Nat.le_of_ble_eq_true rfl⟩ (ci := 4) rfl (by omega) rcL4 rfl rfl (Nat.le_of_ble_eq_true rfl) dL_law_1714 ?_
  exact j_rcmp_eq h 2079 dL_law_1717 (by decide) (fun _ => K _) (fun w => absurd rfl w)
theorem dL_law_1722 : decode cL_law 1722 = .ok (.aload_n 1, 1) := by decide +kernel
theorem dL_law_1723 : decode cL_law 1723 = .ok (.aload_n 0, 1) := by decide +kernel
theorem dL_law_1724 : decode cL_law 1724 = .ok (.iload_n 3, 1) := by decide +kernel
theorem dL_law_1725 : decode cL_law 1725 = .ok (.iconst 1, 1) := by decide +kernel
theorem dL_law_1726 : decode cL_law 1726 = .ok (.iadd, 1) := by decide +kernel
theorem dL_law_1727 : decode cL_law 1727 = .ok (.iaload, 1) := by decide +kernel
theorem dL_law_1728 : decode cL_law 1728 = .ok (.aload_n 0, 1) := by decide +kernel
theorem dL_law_1729 : decode cL_law 1729 = .ok (.iload_n 3, 1) := by decide +kernel
theorem dL_law_1730 : decode cL_law 1730 = .ok (.iconst 2, 1) := by decide +kernel
theorem dL_law_1731 : decode cL_law 1731 = .ok (.iadd, 1) := by decide +kernel
theorem dL_law_1732 : decode cL_law 1732 = .ok (.iaload, 1) := by decide +kernel
theorem dL_law_1733 : decode cL_law 1733 = .ok (.invokevirtual 177, 3) := by decide +kernel
theorem dL_law_1736 : decode cL_law 1736 = .ok (.aload_n 2, 1) := by decide +kernel
theorem dL_law_1737 : decode cL_law 1737 = .ok (.aload_n 0, 1) := by decide +kernel
theorem dL_law_1738 : decode cL_law 1738 = .ok (.iload_n 3, 1) := by decide +kernel
theorem dL_law_1739 : decode cL_law 1739 = .ok (.iconst 1, 1) := by decide +kernel
theorem dL_law_1740 : decode cL_law 1740 = .ok (.iadd, 1) := by decide +kernel
theorem dL_law_1741 : decode cL_law 1741 = .ok (.iaload, 1) := by decide +kernel
theorem dL_law_1742 : decode cL_law 1742 = .ok (.aload_n 0, 1) := by decide +kernel
theorem dL_law_1743 : decode cL_law 1743 = .ok (.iload_n 3, 1) := by decide +kernel
theorem dL_law_1744 : decode cL_law 1744 = .ok (.iconst 2, 1) := by decide +kernel
theorem dL_law_1745 : decode cL_law 1745 = .ok (.iadd, 1) := by decide +kernel
theorem dL_law_1746 : decode cL_law 1746 = .ok (.iaload, 1) := by decide +kernel
theorem dL_law_1747 : decode cL_law 1747 = .ok (.invokevirtual 180, 3) := by decide +kernel
theorem dL_law_1750 : decode cL_law 1750 = .ok (.if_icmp .eq 329, 3) := by decide +kernel
set_option maxHeartbeats 400000 in
set_option maxRecDepth 20000 in
theorem law_38 {E : EV} (hE : EOK E) {q v0 : Nat} (hXS : EXS E q v0) {X : TX} {b L : Nat} {xs : Nat → Int32} (h : CX E X cL_law RL ret room_1 4) (hX : LX X b L xs) (hL : L ≤ 3072) {z : Int} (h0 : 0 ≤ z) (h1 : z ≤ L - 6) {A : AS} (K : ∀ A2 : AS, JL E (LQP E) X 2079 [(3, .int (iI z)), (2, eA E 76), (1, eA E 74), (0, .ref b)] [] (A2, A2)) : JL E (LQP E) X 1722 [(3, .int (iI z)), (2, eA E 76), (1, eA E 74), (0, .ref b)] [] (A, A) := by
  refine j_aload_n h 2 dL_law_1722 rfl rfl ?_
  refine j_aload_n h 3 dL_law_1723 rfl rfl ?_
  refine j_iload_n h 0 dL_law_1724 rfl rfl ?_
  refine j_iconst h dL_law_1725 ?_
  refine j_iadd h dL_law_1726 ?_
  refine j_sld h hX hL (by omega) (by omega) dL_law_1727 ?_
  refine j_aload_n h 3 dL_law_1728 rfl rfl ?_
  refine j_iload_n h 0 dL_law_1729 rfl rfl ?_
  refine j_iconst h dL_law_1730 ?_
  refine j_iadd h dL_law_1731 ?_
  refine j_sld h hX hL (by omega) (by omega) dL_law_1732 ?_
  refine j_callV h (ct_L (fun g0 => p_turn hE (okI_of (xs (z + 1).toNat)) (okI_of (xs (z + 2).toNat)))) m_X3_turn a_l_L_177 rfl rfl ⟨Nat.le_of_ble_eq_true rfl, Nat.le_of_ble_eq_true rfl⟩ (ci := 3) rfl (by omega) rcL3 rfl rfl (Nat.le_of_ble_eq_true rfl) dL_law_1733 ?_
  refine j_aload_n h 1 dL_law_1736 rfl rfl ?_
  refine j_aload_n h 3 dL_law_1737 rfl rfl ?_
  refine j_iload_n h 0 dL_law_1738 rfl rfl ?_
  refine j_iconst h dL_law_1739 ?_
  refine j_iadd h dL_law_1740 ?_
  refine j_sld h hX hL (by omega) (by omega) dL_law_1741 ?_
  refine j_aload_n h 3 dL_law_1742 rfl rfl ?_
  refine j_iload_n h 0 dL_law_1743 rfl rfl ?_
  refine j_iconst h dL_law_1744 ?_
  refine j_iadd h dL_law_1745 ?_
  refine j_sld h hX hL (by omega) (by omega) dL_law_1746 ?_
  refine j_callV h (ct_R (fun g0 => q_turn hE (okI_of (xs (z + 1).toNat)) (okI_of (xs (z + 2).toNat)))) m_X4_turn a_l_L_180 rfl rfl ⟨Nat.le_of_ble_eq_true rfl, Nat.le_of_ble_eq_true rfl⟩ (ci := 4) rfl (by omega) rcL4 rfl rfl (Nat.le_of_ble_eq_true rfl) dL_law_1747 ?_
  exact j_rcmp_eq h 2079 dL_law_1750 (by decide) (fun _ => K _) (fun w => absurd rfl w)
theorem dL_law_1755 : decode cL_law 1755 = .ok (.aload_n 1, 1) := by decide +kernel
theorem dL_law_1756 : decode cL_law 1756 = .ok (.aload_n 0, 1) := by decide +kernel
theorem dL_law_1757 : decode cL_law 1757 = .ok (.iload_n 3, 1) := by decide +kernel
theorem dL_law_1758 : decode cL_law 1758 = .ok (.iconst 1, 1) := by decide +kernel
theorem dL_law_1759 : decode cL_law 1759 = .ok (.iadd, 1) := by decide +kernel
theorem dL_law_1760 : decode cL_law 1760 = .ok (.iaload, 1) := by decide +kernel
theorem dL_law_1761 : decode cL_law 1761 = .ok (.aload_n 0, 1) := by decide +kernel
theorem dL_law_1762 : decode cL_law 1762 = .ok (.iload_n 3, 1) := by decide +kernel
theorem dL_law_1763 : decode cL_law 1763 = .ok (.iconst 2, 1) := by decide +kernel
theorem dL_law_1764 : decode cL_law 1764 = .ok (.iadd, 1) := by decide +kernel
theorem dL_law_1765 : decode cL_law 1765 = .ok (.iaload, 1) := by decide +kernel
theorem dL_law_1766 : decode cL_law 1766 = .ok (.aload_n 0, 1) := by decide +kernel
theorem dL_law_1767 : decode cL_law 1767 = .ok (.iload_n 3, 1) := by decide +kernel
theorem dL_law_1768 : decode cL_law 1768 = .ok (.iconst 3, 1) := by decide +kernel
theorem dL_law_1769 : decode cL_law 1769 = .ok (.iadd, 1) := by decide +kernel
theorem dL_law_1770 : decode cL_law 1770 = .ok (.iaload, 1) := by decide +kernel
theorem dL_law_1771 : decode cL_law 1771 = .ok (.invokevirtual 181, 3) := by decide +kernel
theorem dL_law_1774 : decode cL_law 1774 = .ok (.aload_n 2, 1) := by decide +kernel
theorem dL_law_1775 : decode cL_law 1775 = .ok (.aload_n 0, 1) := by decide +kernel
theorem dL_law_1776 : decode cL_law 1776 = .ok (.iload_n 3, 1) := by decide +kernel
theorem dL_law_1777 : decode cL_law 1777 = .ok (.iconst 1, 1) := by decide +kernel
theorem dL_law_1778 : decode cL_law 1778 = .ok (.iadd, 1) := by decide +kernel
theorem dL_law_1779 : decode cL_law 1779 = .ok (.iaload, 1) := by decide +kernel
theorem dL_law_1780 : decode cL_law 1780 = .ok (.aload_n 0, 1) := by decide +kernel
theorem dL_law_1781 : decode cL_law 1781 = .ok (.iload_n 3, 1) := by decide +kernel
theorem dL_law_1782 : decode cL_law 1782 = .ok (.iconst 2, 1) := by decide +kernel
theorem dL_law_1783 : decode cL_law 1783 = .ok (.iadd, 1) := by decide +kernel
theorem dL_law_1784 : decode cL_law 1784 = .ok (.iaload, 1) := by decide +kernel
theorem dL_law_1785 : decode cL_law 1785 = .ok (.aload_n 0, 1) := by decide +kernel
theorem dL_law_1786 : decode cL_law 1786 = .ok (.iload_n 3, 1) := by decide +kernel
theorem dL_law_1787 : decode cL_law 1787 = .ok (.iconst 3, 1) := by decide +kernel
theorem dL_law_1788 : decode cL_law 1788 = .ok (.iadd, 1) := by decide +kernel
theorem dL_law_1789 : decode cL_law 1789 = .ok (.iaload, 1) := by decide +kernel
theorem dL_law_1790 : decode cL_law 1790 = .ok (.invokevirtual 184, 3) := by decide +kernel
theorem dL_law_1793 : decode cL_law 1793 = .ok (.if_icmp .eq 286, 3) := by decide +kernel
set_option maxHeartbeats 400000 in
set_option maxRecDepth 20000 in
theorem law_39 {E : EV} (hE : EOK E) {q v0 : Nat} (hXS : EXS E q v0) {X : TX} {b L : Nat} {xs : Nat → Int32} (h : CX E X cL_law RL ret room_1 4) (hX : LX X b L xs) (hL : L ≤ 3072) {z : Int} (h0 : 0 ≤ z) (h1 : z ≤ L - 6) {A : AS} (K : ∀ A2 : AS, JL E (LQP E) X 2079 [(3, .int (iI z)), (2, eA E 76), (1, eA E 74), (0, .ref b)] [] (A2, A2)) : JL E (LQP E) X 1755 [(3, .int (iI z)), (2, eA E 76), (1, eA E 74), (0, .ref b)] [] (A, A) := by
  refine j_aload_n h 2 dL_law_1755 rfl rfl ?_
  refine j_aload_n h 3 dL_law_1756 rfl rfl ?_
  refine j_iload_n h 0 dL_law_1757 rfl rfl ?_
  refine j_iconst h dL_law_1758 ?_
  refine j_iadd h dL_law_1759 ?_
  refine j_sld h hX hL (by omega) (by omega) dL_law_1760 ?_
  refine j_aload_n h 3 dL_law_1761 rfl rfl ?_
  refine j_iload_n h 0 dL_law_1762 rfl rfl ?_
  refine j_iconst h dL_law_1763 ?_
  refine j_iadd h dL_law_1764 ?_
  refine j_sld h hX hL (by omega) (by omega) dL_law_1765 ?_
  refine j_aload_n h 3 dL_law_1766 rfl rfl ?_
  refine j_iload_n h 0 dL_law_1767 rfl rfl ?_
  refine j_iconst h dL_law_1768 ?_
  refine j_iadd h dL_law_1769 ?_
  refine j_sld h hX hL (by omega) (by omega) dL_law_1770 ?_
  refine j_callV h (ct_L (fun g0 => p_part hE hXS (okI_of (xs (z + 1).toNat)) (okI_of (xs (z + 2).toNat)) (okI_of (xs (z + 3).toNat)))) m_X3_part a_l_L_181 rfl rfl ⟨Nat.le_of_ble_eq_true rfl, Nat.le_of_ble_eq_true rfl⟩ (ci := 3) rfl (by omega) rcL3 rfl rfl (Nat.le_of_ble_eq_true rfl) dL_law_1771 ?_
  refine j_aload_n h 1 dL_law_1774 rfl rfl ?_
  refine j_aload_n h 3 dL_law_1775 rfl rfl ?_
  refine j_iload_n h 0 dL_law_1776 rfl rfl ?_
  refine j_iconst h dL_law_1777 ?_
  refine j_iadd h dL_law_1778 ?_
  refine j_sld h hX hL (by omega) (by omega) dL_law_1779 ?_
  refine j_aload_n h 3 dL_law_1780 rfl rfl ?_
  refine j_iload_n h 0 dL_law_1781 rfl rfl ?_
  refine j_iconst h dL_law_1782 ?_
  refine j_iadd h dL_law_1783 ?_
  refine j_sld h hX hL (by omega) (by omega) dL_law_1784 ?_
  refine j_aload_n h 3 dL_law_1785 rfl rfl ?_
  refine j_iload_n h 0 dL_law_1786 rfl rfl ?_
  refine j_iconst h dL_law_1787 ?_
  refine j_iadd h dL_law_1788 ?_
  refine j_sld h hX hL (by omega) (by omega) dL_law_1789 ?_
  refine j_callV h (ct_R (fun g0 => q_part hE (okI_of (xs (z + 1).toNat)) (okI_of (xs (z + 2).toNat)) (okI_of (xs (z + 3).toNat)))) m_X4_part a_l_L_184 rfl rfl ⟨Nat.le_of_ble_eq_true rfl, Nat.le_of_ble_eq_true rfl⟩ (ci := 4) rfl (by omega) rcL4 rfl rfl (Nat.le_of_ble_eq_true rfl) dL_law_1790 ?_
  exact j_rcmp_eq h 2079 dL_law_1793 (by decide) (fun _ => K _) (fun w => absurd rfl w)
theorem dL_law_1798 : decode cL_law 1798 = .ok (.aload_n 1, 1) := by decide +kernel
theorem dL_law_1799 : decode cL_law 1799 = .ok (.invokevirtual 185, 3) := by decide +kernel
theorem dL_law_1802 : decode cL_law 1802 = .ok (.aload_n 2, 1) := by decide +kernel
theorem dL_law_1803 : decode cL_law 1803 = .ok (.invokevirtual 189, 3) := by decide +kernel
theorem dL_law_1806 : decode cL_law 1806 = .ok (.if_icmp .eq 273, 3) := by decide +kernel
set_option maxHeartbeats 400000 in
set_option maxRecDepth 20000 in
theorem law_40 {E : EV} (hE : EOK E) {q v0 : Nat} (hXS : EXS E q v0) {X : TX} {b L : Nat} {xs : Nat → Int32} (h : CX E X cL_law RL ret room_1 4) (hX : LX X b L xs) (hL : L ≤ 3072) {z : Int} (h0 : 0 ≤ z) (h1 : z ≤ L - 6) {A : AS} (K : ∀ A2 : AS, JL E (LQP E) X 2079 [(3, .int (iI z)), (2, eA E 76), (1, eA E 74), (0, .ref b)] [] (A2, A2)) : JL E (LQP E) X 1798 [(3, .int (iI z)), (2, eA E 76), (1, eA E 74), (0, .ref b)] [] (A, A) := by
  refine j_aload_n h 2 dL_law_1798 rfl rfl ?_
  refine j_callV h (ct_L (fun g0 => p_pieces hE)) m_X3_pieces a_l_L_185 rfl rfl ⟨Nat.le_of_ble_eq_true rfl, Nat.le_of_ble_eq_true rfl⟩ (ci := 3) rfl (by omega) rcL3 rfl rfl (Nat.le_of_ble_eq_true rfl) dL_law_1799 ?_
  refine j_aload_n h 1 dL_law_1802 rfl rfl ?_
  refine j_callV h (ct_R (fun g0 => q_pieces hE)) m_X4_pieces a_l_L_189 rfl rfl ⟨Nat.le_of_ble_eq_true rfl, Nat.le_of_ble_eq_true rfl⟩ (ci := 4) rfl (by omega) rcL4 rfl rfl (Nat.le_of_ble_eq_true rfl) dL_law_1803 ?_
  exact j_rcmp_eq h 2079 dL_law_1806 (by decide) (fun _ => K _) (fun w => absurd rfl w)
theorem dL_law_1811 : decode cL_law 1811 = .ok (.aload_n 1, 1) := by decide +kernel
theorem dL_law_1812 : decode cL_law 1812 = .ok (.aload_n 0, 1) := by decide +kernel
theorem dL_law_1813 : decode cL_law 1813 = .ok (.iload_n 3, 1) := by decide +kernel
theorem dL_law_1814 : decode cL_law 1814 = .ok (.iconst 1, 1) := by decide +kernel
theorem dL_law_1815 : decode cL_law 1815 = .ok (.iadd, 1) := by decide +kernel
theorem dL_law_1816 : decode cL_law 1816 = .ok (.iaload, 1) := by decide +kernel
theorem dL_law_1817 : decode cL_law 1817 = .ok (.aload_n 0, 1) := by decide +kernel
theorem dL_law_1818 : decode cL_law 1818 = .ok (.iload_n 3, 1) := by decide +kernel
theorem dL_law_1819 : decode cL_law 1819 = .ok (.iconst 2, 1) := by decide +kernel
theorem dL_law_1820 : decode cL_law 1820 = .ok (.iadd, 1) := by decide +kernel
theorem dL_law_1821 : decode cL_law 1821 = .ok (.iaload, 1) := by decide +kernel
theorem dL_law_1822 : decode cL_law 1822 = .ok (.invokevirtual 190, 3) := by decide +kernel
theorem dL_law_1825 : decode cL_law 1825 = .ok (.aload_n 2, 1) := by decide +kernel
theorem dL_law_1826 : decode cL_law 1826 = .ok (.aload_n 0, 1) := by decide +kernel
theorem dL_law_1827 : decode cL_law 1827 = .ok (.iload_n 3, 1) := by decide +kernel
theorem dL_law_1828 : decode cL_law 1828 = .ok (.iconst 1, 1) := by decide +kernel
theorem dL_law_1829 : decode cL_law 1829 = .ok (.iadd, 1) := by decide +kernel
theorem dL_law_1830 : decode cL_law 1830 = .ok (.iaload, 1) := by decide +kernel
theorem dL_law_1831 : decode cL_law 1831 = .ok (.aload_n 0, 1) := by decide +kernel
theorem dL_law_1832 : decode cL_law 1832 = .ok (.iload_n 3, 1) := by decide +kernel
theorem dL_law_1833 : decode cL_law 1833 = .ok (.iconst 2, 1) := by decide +kernel
theorem dL_law_1834 : decode cL_law 1834 = .ok (.iadd, 1) := by decide +kernel
theorem dL_law_1835 : decode cL_law 1835 = .ok (.iaload, 1) := by decide +kernel
theorem dL_law_1836 : decode cL_law 1836 = .ok (.invokevirtual 193, 3) := by decide +kernel
theorem dL_law_1839 : decode cL_law 1839 = .ok (.if_icmp .eq 240, 3) := by decide +kernel
set_option maxHeartbeats 400000 in
set_option maxRecDepth 20000 in
theorem law_41 {E : EV} (hE : EOK E) {q v0 : Nat} (hXS : EXS E q v0) {X : TX} {b L : Nat} {xs : Nat → Int32} (h : CX E X cL_law RL ret room_1 4) (hX : LX X b L xs) (hL : L ≤ 3072) {z : Int} (h0 : 0 ≤ z) (h1 : z ≤ L - 6) {A : AS} (K : ∀ A2 : AS, JL E (LQP E) X 2079 [(3, .int (iI z)), (2, eA E 76), (1, eA E 74), (0, .ref b)] [] (A2, A2)) : JL E (LQP E) X 1811 [(3, .int (iI z)), (2, eA E 76), (1, eA E 74), (0, .ref b)] [] (A, A) := by
  refine j_aload_n h 2 dL_law_1811 rfl rfl ?_
  refine j_aload_n h 3 dL_law_1812 rfl rfl ?_
  refine j_iload_n h 0 dL_law_1813 rfl rfl ?_
  refine j_iconst h dL_law_1814 ?_
  refine j_iadd h dL_law_1815 ?_
  refine j_sld h hX hL (by omega) (by omega) dL_law_1816 ?_
  refine j_aload_n h 3 dL_law_1817 rfl rfl ?_
  refine j_iload_n h 0 dL_law_1818 rfl rfl ?_
  refine j_iconst h dL_law_1819 ?_
  refine j_iadd h dL_law_1820 ?_
  refine j_sld h hX hL (by omega) (by omega) dL_law_1821 ?_
  refine j_callV h (ct_L (fun g0 => p_piece hE (okI_of (xs (z + 1).toNat)) (okI_of (xs (z + 2).toNat)))) m_X3_piece a_l_L_190 rfl rfl ⟨Nat.le_of_ble_eq_true rfl, Nat.le_of_ble_eq_true rfl⟩ (ci := 3) rfl (by omega) rcL3 rfl rfl (Nat.le_of_ble_eq_true rfl) dL_law_1822 ?_
  refine j_aload_n h 1 dL_law_1825 rfl rfl ?_
  refine j_aload_n h 3 dL_law_1826 rfl rfl ?_
  refine j_iload_n h 0 dL_law_1827 rfl rfl ?_
  refine j_iconst h dL_law_1828 ?_
  refine j_iadd h dL_law_1829 ?_
  refine j_sld h hX hL (by omega) (by omega) dL_law_1830 ?_
  refine j_aload_n h 3 dL_law_1831 rfl rfl ?_
  refine j_iload_n h 0 dL_law_1832 rfl rfl ?_
  refine j_iconst h dL_law_1833 ?_
  refine j_iadd h dL_law_1834 ?_
  refine j_sld h hX hL (by omega) (by omega) dL_law_1835 ?_
  refine j_callV h (ct_R (fun g0 => q_piece hE (okI_of (xs (z + 1).toNat)) (okI_of (xs (z + 2).toNat)))) m_X4_piece a_l_L_193 rfl rfl ⟨Nat.le_of_ble_eq_true rfl, Nat.le_of_ble_eq_true rfl⟩ (ci := 4) rfl (by omega) rcL4 rfl rfl (Nat.le_of_ble_eq_true rfl) dL_law_1836 ?_
  exact j_rcmp_eq h 2079 dL_law_1839 (by decide) (fun _ => K _) (fun w => absurd rfl w)
theorem dL_law_1844 : decode cL_law 1844 = .ok (.aload_n 1, 1) := by decide +kernel
theorem dL_law_1845 : decode cL_law 1845 = .ok (.aload_n 0, 1) := by decide +kernel
theorem dL_law_1846 : decode cL_law 1846 = .ok (.iload_n 3, 1) := by decide +kernel
theorem dL_law_1847 : decode cL_law 1847 = .ok (.iconst 1, 1) := by decide +kernel
theorem dL_law_1848 : decode cL_law 1848 = .ok (.iadd, 1) := by decide +kernel
theorem dL_law_1849 : decode cL_law 1849 = .ok (.iaload, 1) := by decide +kernel
theorem dL_law_1850 : decode cL_law 1850 = .ok (.aload_n 0, 1) := by decide +kernel
theorem dL_law_1851 : decode cL_law 1851 = .ok (.iload_n 3, 1) := by decide +kernel
theorem dL_law_1852 : decode cL_law 1852 = .ok (.iconst 2, 1) := by decide +kernel
theorem dL_law_1853 : decode cL_law 1853 = .ok (.iadd, 1) := by decide +kernel
theorem dL_law_1854 : decode cL_law 1854 = .ok (.iaload, 1) := by decide +kernel
theorem dL_law_1855 : decode cL_law 1855 = .ok (.invokevirtual 194, 3) := by decide +kernel
theorem dL_law_1858 : decode cL_law 1858 = .ok (.aload_n 2, 1) := by decide +kernel
theorem dL_law_1859 : decode cL_law 1859 = .ok (.aload_n 0, 1) := by decide +kernel
theorem dL_law_1860 : decode cL_law 1860 = .ok (.iload_n 3, 1) := by decide +kernel
theorem dL_law_1861 : decode cL_law 1861 = .ok (.iconst 1, 1) := by decide +kernel
theorem dL_law_1862 : decode cL_law 1862 = .ok (.iadd, 1) := by decide +kernel
theorem dL_law_1863 : decode cL_law 1863 = .ok (.iaload, 1) := by decide +kernel
theorem dL_law_1864 : decode cL_law 1864 = .ok (.aload_n 0, 1) := by decide +kernel
theorem dL_law_1865 : decode cL_law 1865 = .ok (.iload_n 3, 1) := by decide +kernel
theorem dL_law_1866 : decode cL_law 1866 = .ok (.iconst 2, 1) := by decide +kernel
theorem dL_law_1867 : decode cL_law 1867 = .ok (.iadd, 1) := by decide +kernel
theorem dL_law_1868 : decode cL_law 1868 = .ok (.iaload, 1) := by decide +kernel
theorem dL_law_1869 : decode cL_law 1869 = .ok (.invokevirtual 197, 3) := by decide +kernel
theorem dL_law_1872 : decode cL_law 1872 = .ok (.if_icmp .eq 207, 3) := by decide +kernel
set_option maxHeartbeats 400000 in
set_option maxRecDepth 20000 in
theorem law_42 {E : EV} (hE : EOK E) {q v0 : Nat} (hXS : EXS E q v0) {X : TX} {b L : Nat} {xs : Nat → Int32} (h : CX E X cL_law RL ret room_1 4) (hX : LX X b L xs) (hL : L ≤ 3072) {z : Int} (h0 : 0 ≤ z) (h1 : z ≤ L - 6) {A : AS} (K : ∀ A2 : AS, JL E (LQP E) X 2079 [(3, .int (iI z)), (2, eA E 76), (1, eA E 74), (0, .ref b)] [] (A2, A2)) : JL E (LQP E) X 1844 [(3, .int (iI z)), (2, eA E 76), (1, eA E 74), (0, .ref b)] [] (A, A) := by
  refine j_aload_n h 2 dL_law_1844 rfl rfl ?_
  refine j_aload_n h 3 dL_law_1845 rfl rfl ?_
  refine j_iload_n h 0 dL_law_1846 rfl rfl ?_
  refine j_iconst h dL_law_1847 ?_
  refine j_iadd h dL_law_1848 ?_
  refine j_sld h hX hL (by omega) (by omega) dL_law_1849 ?_
  refine j_aload_n h 3 dL_law_1850 rfl rfl ?_
  refine j_iload_n h 0 dL_law_1851 rfl rfl ?_
  refine j_iconst h dL_law_1852 ?_
  refine j_iadd h dL_law_1853 ?_
  refine j_sld h hX hL (by omega) (by omega) dL_law_1854 ?_
  refine j_callV h (ct_L (fun g0 => p_join hE (okI_of (xs (z + 1).toNat)) (okI_of (xs (z + 2).toNat)))) m_X3_join a_l_L_194 rfl rfl ⟨Nat.le_of_ble_eq_true rfl, Nat.le_of_ble_eq_true rfl⟩ (ci := 3) rfl (by omega) rcL3 rfl rfl (Nat.le_of_ble_eq_true rfl) dL_law_1855 ?_
  refine j_aload_n h 1 dL_law_1858 rfl rfl ?_
  refine j_aload_n h 3 dL_law_1859 rfl rfl ?_
  refine j_iload_n h 0 dL_law_1860 rfl rfl ?_
  refine j_iconst h dL_law_1861 ?_
  refine j_iadd h dL_law_1862 ?_
  refine j_sld h hX hL (by omega) (by omega) dL_law_1863 ?_
  refine j_aload_n h 3 dL_law_1864 rfl rfl ?_
  refine j_iload_n h 0 dL_law_1865 rfl rfl ?_
  refine j_iconst h dL_law_1866 ?_
  refine j_iadd h dL_law_1867 ?_
  refine j_sld h hX hL (by omega) (by omega) dL_law_1868 ?_
  refine j_callV h (ct_R (fun g0 => q_join hE (okI_of (xs (z + 1).toNat)) (okI_of (xs (z + 2).toNat)))) m_X4_join a_l_L_197 rfl rfl ⟨Nat.le_of_ble_eq_true rfl, Nat.le_of_ble_eq_true rfl⟩ (ci := 4) rfl (by omega) rcL4 rfl rfl (Nat.le_of_ble_eq_true rfl) dL_law_1869 ?_
  exact j_rcmp_eq h 2079 dL_law_1872 (by decide) (fun _ => K _) (fun w => absurd rfl w)
