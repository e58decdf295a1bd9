theorem dX7_init_1561 : decode cX7_init 1561 = .ok (.sipush (-5153), 3) := by decide +kernel
theorem dX7_init_1564 : decode cX7_init 1564 = .ok (.iastore, 1) := by decide +kernel
theorem dX7_init_1565 : decode cX7_init 1565 = .ok (.dup, 1) := by decide +kernel
theorem dX7_init_1566 : decode cX7_init 1566 = .ok (.sipush 161, 3) := by decide +kernel
theorem dX7_init_1569 : decode cX7_init 1569 = .ok (.sipush (-5517), 3) := by decide +kernel
theorem dX7_init_1572 : decode cX7_init 1572 = .ok (.iastore, 1) := by decide +kernel
theorem dX7_init_1573 : decode cX7_init 1573 = .ok (.dup, 1) := by decide +kernel
theorem dX7_init_1574 : decode cX7_init 1574 = .ok (.sipush 162, 3) := by decide +kernel
theorem dX7_init_1577 : decode cX7_init 1577 = .ok (.sipush (-5879), 3) := by decide +kernel
theorem dX7_init_1580 : decode cX7_init 1580 = .ok (.iastore, 1) := by decide +kernel
theorem dX7_init_1581 : decode cX7_init 1581 = .ok (.dup, 1) := by decide +kernel
theorem dX7_init_1582 : decode cX7_init 1582 = .ok (.sipush 163, 3) := by decide +kernel
theorem dX7_init_1585 : decode cX7_init 1585 = .ok (.sipush (-6237), 3) := by decide +kernel
theorem dX7_init_1588 : decode cX7_init 1588 = .ok (.iastore, 1) := by decide +kernel
theorem dX7_init_1589 : decode cX7_init 1589 = .ok (.dup, 1) := by decide +kernel
theorem dX7_init_1590 : decode cX7_init 1590 = .ok (.sipush 164, 3) := by decide +kernel
theorem dX7_init_1593 : decode cX7_init 1593 = .ok (.sipush (-6589), 3) := by decide +kernel
theorem dX7_init_1596 : decode cX7_init 1596 = .ok (.iastore, 1) := by decide +kernel
theorem dX7_init_1597 : decode cX7_init 1597 = .ok (.dup, 1) := by decide +kernel
theorem dX7_init_1598 : decode cX7_init 1598 = .ok (.sipush 165, 3) := by decide +kernel
theorem dX7_init_1601 : decode cX7_init 1601 = .ok (.sipush (-6935), 3) := by decide +kernel
theorem dX7_init_1604 : decode cX7_init 1604 = .ok (.iastore, 1) := by decide +kernel
theorem dX7_init_1605 : decode cX7_init 1605 = .ok (.dup, 1) := by decide +kernel
theorem dX7_init_1606 : decode cX7_init 1606 = .ok (.sipush 166, 3) := by decide +kernel
theorem dX7_init_1609 : decode cX7_init 1609 = .ok (.sipush (-7271), 3) := by decide +kernel
theorem dX7_init_1612 : decode cX7_init 1612 = .ok (.iastore, 1) := by decide +kernel
theorem dX7_init_1613 : decode cX7_init 1613 = .ok (.dup, 1) := by decide +kernel
theorem dX7_init_1614 : decode cX7_init 1614 = .ok (.sipush 167, 3) := by decide +kernel
theorem dX7_init_1617 : decode cX7_init 1617 = .ok (.sipush (-7597), 3) := by decide +kernel
theorem dX7_init_1620 : decode cX7_init 1620 = .ok (.iastore, 1) := by decide +kernel
theorem dX7_init_1621 : decode cX7_init 1621 = .ok (.dup, 1) := by decide +kernel
theorem dX7_init_1622 : decode cX7_init 1622 = .ok (.sipush 168, 3) := by decide +kernel
theorem dX7_init_1625 : decode cX7_init 1625 = .ok (.sipush (-7910), 3) := by decide +kernel
theorem dX7_init_1628 : decode cX7_init 1628 = .ok (.iastore, 1) := by decide +kernel
theorem dX7_init_1629 : decode cX7_init 1629 = .ok (.dup, 1) := by decide +kernel
theorem dX7_init_1630 : decode cX7_init 1630 = .ok (.sipush 169, 3) := by decide +kernel
theorem dX7_init_1633 : decode cX7_init 1633 = .ok (.sipush (-8209), 3) := by decide +kernel
theorem dX7_init_1636 : decode cX7_init 1636 = .ok (.iastore, 1) := by decide +kernel
theorem dX7_init_1637 : decode cX7_init 1637 = .ok (.dup, 1) := by decide +kernel
theorem dX7_init_1638 : decode cX7_init 1638 = .ok (.sipush 170, 3) := by decide +kernel
theorem dX7_init_1641 : decode cX7_init 1641 = .ok (.sipush (-8491), 3) := by decide +kernel
theorem dX7_init_1644 : decode cX7_init 1644 = .ok (.iastore, 1) := by decide +kernel
theorem dX7_init_1645 : decode cX7_init 1645 = .ok (.dup, 1) := by decide +kernel
theorem dX7_init_1646 : decode cX7_init 1646 = .ok (.sipush 171, 3) := by decide +kernel
theorem dX7_init_1649 : decode cX7_init 1649 = .ok (.sipush (-8755), 3) := by decide +kernel
theorem dX7_init_1652 : decode cX7_init 1652 = .ok (.iastore, 1) := by decide +kernel
theorem dX7_init_1653 : decode cX7_init 1653 = .ok (.dup, 1) := by decide +kernel
theorem dX7_init_1654 : decode cX7_init 1654 = .ok (.sipush 172, 3) := by decide +kernel
theorem dX7_init_1657 : decode cX7_init 1657 = .ok (.sipush (-8998), 3) := by decide +kernel
theorem dX7_init_1660 : decode cX7_init 1660 = .ok (.iastore, 1) := by decide +kernel
theorem dX7_init_1661 : decode cX7_init 1661 = .ok (.dup, 1) := by decide +kernel
theorem dX7_init_1662 : decode cX7_init 1662 = .ok (.sipush 173, 3) := by decide +kernel
theorem dX7_init_1665 : decode cX7_init 1665 = .ok (.sipush (-9219), 3) := by decide +kernel
theorem dX7_init_1668 : decode cX7_init 1668 = .ok (.iastore, 1) := by decide +kernel
theorem dX7_init_1669 : decode cX7_init 1669 = .ok (.dup, 1) := by decide +kernel
theorem dX7_init_1670 : decode cX7_init 1670 = .ok (.sipush 174, 3) := by decide +kernel
theorem dX7_init_1673 : decode cX7_init 1673 = .ok (.sipush (-9416), 3) := by decide +kernel
theorem dX7_init_1676 : decode cX7_init 1676 = .ok (.iastore, 1) := by decide +kernel
theorem dX7_init_1677 : decode cX7_init 1677 = .ok (.dup, 1) := by decide +kernel
theorem dX7_init_1678 : decode cX7_init 1678 = .ok (.sipush 175, 3) := by decide +kernel
theorem dX7_init_1681 : decode cX7_init 1681 = .ok (.sipush (-9585), 3) := by decide +kernel
theorem dX7_init_1684 : decode cX7_init 1684 = .ok (.iastore, 1) := by decide +kernel
theorem dX7_init_1685 : decode cX7_init 1685 = .ok (.dup, 1) := by decide +kernel
theorem dX7_init_1686 : decode cX7_init 1686 = .ok (.sipush 176, 3) := by decide +kernel
theorem dX7_init_1689 : decode cX7_init 1689 = .ok (.sipush (-9727), 3) := by decide +kernel
theorem dX7_init_1692 : decode cX7_init 1692 = .ok (.iastore, 1) := by decide +kernel
theorem dX7_init_1693 : decode cX7_init 1693 = .ok (.dup, 1) := by decide +kernel
theorem dX7_init_1694 : decode cX7_init 1694 = .ok (.sipush 177, 3) := by decide +kernel
theorem dX7_init_1697 : decode cX7_init 1697 = .ok (.sipush (-9838), 3) := by decide +kernel
theorem dX7_init_1700 : decode cX7_init 1700 = .ok (.iastore, 1) := by decide +kernel
theorem dX7_init_1701 : decode cX7_init 1701 = .ok (.dup, 1) := by decide +kernel
theorem dX7_init_1702 : decode cX7_init 1702 = .ok (.sipush 178, 3) := by decide +kernel
theorem dX7_init_1705 : decode cX7_init 1705 = .ok (.sipush (-9916), 3) := by decide +kernel
theorem dX7_init_1708 : decode cX7_init 1708 = .ok (.iastore, 1) := by decide +kernel
theorem dX7_init_1709 : decode cX7_init 1709 = .ok (.dup, 1) := by decide +kernel
theorem dX7_init_1710 : decode cX7_init 1710 = .ok (.sipush 179, 3) := by decide +kernel
theorem dX7_init_1713 : decode cX7_init 1713 = .ok (.sipush (-9959), 3) := by decide +kernel
theorem dX7_init_1716 : decode cX7_init 1716 = .ok (.iastore, 1) := by decide +kernel
theorem dX7_init_1717 : decode cX7_init 1717 = .ok (.dup, 1) := by decide +kernel
theorem dX7_init_1718 : decode cX7_init 1718 = .ok (.sipush 180, 3) := by decide +kernel
theorem dX7_init_1721 : decode cX7_init 1721 = .ok (.sipush (-9966), 3) := by decide +kernel
theorem dX7_init_1724 : decode cX7_init 1724 = .ok (.iastore, 1) := by decide +kernel
theorem dX7_init_1725 : decode cX7_init 1725 = .ok (.dup, 1) := by decide +kernel
theorem dX7_init_1726 : decode cX7_init 1726 = .ok (.sipush 181, 3) := by decide +kernel
theorem dX7_init_1729 : decode cX7_init 1729 = .ok (.sipush (-9935), 3) := by decide +kernel
theorem dX7_init_1732 : decode cX7_init 1732 = .ok (.iastore, 1) := by decide +kernel
theorem dX7_init_1733 : decode cX7_init 1733 = .ok (.dup, 1) := by decide +kernel
theorem dX7_init_1734 : decode cX7_init 1734 = .ok (.sipush 182, 3) := by decide +kernel
theorem dX7_init_1737 : decode cX7_init 1737 = .ok (.sipush (-9863), 3) := by decide +kernel
theorem dX7_init_1740 : decode cX7_init 1740 = .ok (.iastore, 1) := by decide +kernel
theorem dX7_init_1741 : decode cX7_init 1741 = .ok (.dup, 1) := by decide +kernel
theorem dX7_init_1742 : decode cX7_init 1742 = .ok (.sipush 183, 3) := by decide +kernel
theorem dX7_init_1745 : decode cX7_init 1745 = .ok (.sipush (-9750), 3) := by decide +kernel
theorem dX7_init_1748 : decode cX7_init 1748 = .ok (.iastore, 1) := by decide +kernel
theorem dX7_init_1749 : decode cX7_init 1749 = .ok (.dup, 1) := by decide +kernel
theorem dX7_init_1750 : decode cX7_init 1750 = .ok (.sipush 184, 3) := by decide +kernel
theorem dX7_init_1753 : decode cX7_init 1753 = .ok (.sipush (-9592), 3) := by decide +kernel
theorem dX7_init_1756 : decode cX7_init 1756 = .ok (.iastore, 1) := by decide +kernel
theorem dX7_init_1757 : decode cX7_init 1757 = .ok (.dup, 1) := by decide +kernel
theorem dX7_init_1758 : decode cX7_init 1758 = .ok (.sipush 185, 3) := by decide +kernel
theorem dX7_init_1761 : decode cX7_init 1761 = .ok (.sipush (-9389), 3) := by decide +kernel
theorem dX7_init_1764 : decode cX7_init 1764 = .ok (.iastore, 1) := by decide +kernel
theorem dX7_init_1765 : decode cX7_init 1765 = .ok (.dup, 1) := by decide +kernel
theorem dX7_init_1766 : decode cX7_init 1766 = .ok (.sipush 186, 3) := by decide +kernel
theorem dX7_init_1769 : decode cX7_init 1769 = .ok (.sipush (-9139), 3) := by decide +kernel
theorem dX7_init_1772 : decode cX7_init 1772 = .ok (.iastore, 1) := by decide +kernel
theorem dX7_init_1773 : decode cX7_init 1773 = .ok (.dup, 1) := by decide +kernel
theorem dX7_init_1774 : decode cX7_init 1774 = .ok (.sipush 187, 3) := by decide +kernel
theorem dX7_init_1777 : decode cX7_init 1777 = .ok (.sipush (-8840), 3) := by decide +kernel
theorem dX7_init_1780 : decode cX7_init 1780 = .ok (.iastore, 1) := by decide +kernel
theorem dX7_init_1781 : decode cX7_init 1781 = .ok (.dup, 1) := by decide +kernel
theorem dX7_init_1782 : decode cX7_init 1782 = .ok (.sipush 188, 3) := by decide +kernel
theorem dX7_init_1785 : decode cX7_init 1785 = .ok (.sipush (-8492), 3) := by decide +kernel
theorem dX7_init_1788 : decode cX7_init 1788 = .ok (.iastore, 1) := by decide +kernel
theorem dX7_init_1789 : decode cX7_init 1789 = .ok (.dup, 1) := by decide +kernel
theorem dX7_init_1790 : decode cX7_init 1790 = .ok (.sipush 189, 3) := by decide +kernel
theorem dX7_init_1793 : decode cX7_init 1793 = .ok (.sipush (-8092), 3) := by decide +kernel
theorem dX7_init_1796 : decode cX7_init 1796 = .ok (.iastore, 1) := by decide +kernel
theorem dX7_init_1797 : decode cX7_init 1797 = .ok (.dup, 1) := by decide +kernel
theorem dX7_init_1798 : decode cX7_init 1798 = .ok (.sipush 190, 3) := by decide +kernel
theorem dX7_init_1801 : decode cX7_init 1801 = .ok (.sipush (-7640), 3) := by decide +kernel
theorem dX7_init_1804 : decode cX7_init 1804 = .ok (.iastore, 1) := by decide +kernel
theorem dX7_init_1805 : decode cX7_init 1805 = .ok (.dup, 1) := by decide +kernel
theorem dX7_init_1806 : decode cX7_init 1806 = .ok (.sipush 191, 3) := by decide +kernel
theorem dX7_init_1809 : decode cX7_init 1809 = .ok (.sipush (-7134), 3) := by decide +kernel
theorem dX7_init_1812 : decode cX7_init 1812 = .ok (.iastore, 1) := by decide +kernel
theorem dX7_init_1813 : decode cX7_init 1813 = .ok (.dup, 1) := by decide +kernel
theorem dX7_init_1814 : decode cX7_init 1814 = .ok (.sipush 192, 3) := by decide +kernel
theorem dX7_init_1817 : decode cX7_init 1817 = .ok (.sipush 6574, 3) := by decide +kernel
theorem dX7_init_1820 : decode cX7_init 1820 = .ok (.iastore, 1) := by decide +kernel
