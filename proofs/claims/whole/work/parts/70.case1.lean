theorem kw450 : Cond.methodLink RL 134 yX8_append ∈ lwX := kw 450 (by decide +kernel) (by decide +kernel)
theorem kw451 : Cond.instanceMethod yX8_append ∈ lwX := kw 451 (by decide +kernel) (by decide +kernel)
theorem kw452 : Cond.selects RX8 yX8_append yX8_append ∈ lwX := kw 452 (by decide +kernel) (by decide +kernel)
theorem kw453 : Cond.code yX8_append cX8_append 7 (some .int) ∈ lwX := kw 453 (by decide +kernel) (by decide +kernel)
theorem kw1685 : Cond.methodLink RL 138 yX9_append ∈ lwX := kw 1685 (by decide +kernel) (by decide +kernel)
theorem kw1686 : Cond.instanceMethod yX9_append ∈ lwX := kw 1686 (by decide +kernel) (by decide +kernel)
theorem kw1687 : Cond.selects RX9 yX9_append yX9_append ∈ lwX := kw 1687 (by decide +kernel) (by decide +kernel)
theorem kw1688 : Cond.code yX9_append cX9_append 6 (some .int) ∈ lwX := kw 1688 (by decide +kernel) (by decide +kernel)
theorem kw869 : Cond.methodLink RL 139 yL_truncateInput ∈ lwX := kw 869 (by decide +kernel) (by decide +kernel)
theorem kw1693 : Cond.methodLink RL 144 yX9_truncateInput ∈ lwX := kw 1693 (by decide +kernel) (by decide +kernel)
theorem kw1694 : Cond.instanceMethod yX9_truncateInput ∈ lwX := kw 1694 (by decide +kernel) (by decide +kernel)
theorem kw1695 : Cond.selects RX9 yX9_truncateInput yX9_truncateInput ∈ lwX := kw 1695 (by decide +kernel) (by decide +kernel)
theorem kw1696 : Cond.code yX9_truncateInput cX9_truncateInput 2 (some .int) ∈ lwX := kw 1696 (by decide +kernel) (by decide +kernel)
theorem kw1681 : Cond.methodLink RL 145 yX9_thrown ∈ lwX := kw 1681 (by decide +kernel) (by decide +kernel)
theorem kw1682 : Cond.instanceMethod yX9_thrown ∈ lwX := kw 1682 (by decide +kernel) (by decide +kernel)
theorem kw1683 : Cond.selects RX9 yX9_thrown yX9_thrown ∈ lwX := kw 1683 (by decide +kernel) (by decide +kernel)
theorem kw1684 : Cond.code yX9_thrown cX9_thrown 1 (some .int) ∈ lwX := kw 1684 (by decide +kernel) (by decide +kernel)
theorem kw458 : Cond.methodLink RL 148 yX8_runScript ∈ lwX := kw 458 (by decide +kernel) (by decide +kernel)
theorem kw459 : Cond.instanceMethod yX8_runScript ∈ lwX := kw 459 (by decide +kernel) (by decide +kernel)
theorem kw460 : Cond.selects RX8 yX8_runScript yX8_runScript ∈ lwX := kw 460 (by decide +kernel) (by decide +kernel)
theorem kw461 : Cond.code yX8_runScript cX8_runScript 1 (some .int) ∈ lwX := kw 461 (by decide +kernel) (by decide +kernel)
theorem kw1701 : Cond.methodLink RL 151 yX9_runScript ∈ lwX := kw 1701 (by decide +kernel) (by decide +kernel)
theorem kw1702 : Cond.instanceMethod yX9_runScript ∈ lwX := kw 1702 (by decide +kernel) (by decide +kernel)
theorem kw1703 : Cond.selects RX9 yX9_runScript yX9_runScript ∈ lwX := kw 1703 (by decide +kernel) (by decide +kernel)
theorem kw1704 : Cond.code yX9_runScript cX9_runScript 2 (some .int) ∈ lwX := kw 1704 (by decide +kernel) (by decide +kernel)
theorem kw945 : Cond.methodLink RL 152 yL_addChimney ∈ lwX := kw 945 (by decide +kernel) (by decide +kernel)
theorem kw1713 : Cond.methodLink RL 154 yX9_addChimney ∈ lwX := kw 1713 (by decide +kernel) (by decide +kernel)
theorem kw1714 : Cond.instanceMethod yX9_addChimney ∈ lwX := kw 1714 (by decide +kernel) (by decide +kernel)
theorem kw1715 : Cond.selects RX9 yX9_addChimney yX9_addChimney ∈ lwX := kw 1715 (by decide +kernel) (by decide +kernel)
theorem kw1716 : Cond.code yX9_addChimney cX9_addChimney 2 (some .int) ∈ lwX := kw 1716 (by decide +kernel) (by decide +kernel)
theorem kw978 : Cond.methodLink RL 155 yL_addGutter ∈ lwX := kw 978 (by decide +kernel) (by decide +kernel)
theorem kw1721 : Cond.methodLink RL 158 yX9_addGutter ∈ lwX := kw 1721 (by decide +kernel) (by decide +kernel)
theorem kw1722 : Cond.instanceMethod yX9_addGutter ∈ lwX := kw 1722 (by decide +kernel) (by decide +kernel)
theorem kw1723 : Cond.selects RX9 yX9_addGutter yX9_addGutter ∈ lwX := kw 1723 (by decide +kernel) (by decide +kernel)
theorem kw1724 : Cond.code yX9_addGutter cX9_addGutter 4 (some .int) ∈ lwX := kw 1724 (by decide +kernel) (by decide +kernel)
theorem kw1012 : Cond.methodLink RL 159 yL_addCat ∈ lwX := kw 1012 (by decide +kernel) (by decide +kernel)
theorem kw1733 : Cond.methodLink RL 161 yX9_addCat ∈ lwX := kw 1733 (by decide +kernel) (by decide +kernel)
theorem kw1734 : Cond.instanceMethod yX9_addCat ∈ lwX := kw 1734 (by decide +kernel) (by decide +kernel)
theorem kw1735 : Cond.selects RX9 yX9_addCat yX9_addCat ∈ lwX := kw 1735 (by decide +kernel) (by decide +kernel)
theorem kw1736 : Cond.code yX9_addCat cX9_addCat 5 (some .int) ∈ lwX := kw 1736 (by decide +kernel) (by decide +kernel)
theorem kw1020 : Cond.methodLink RL 162 yL_step ∈ lwX := kw 1020 (by decide +kernel) (by decide +kernel)
theorem kw1740 : Cond.methodLink RL 165 yX9_step ∈ lwX := kw 1740 (by decide +kernel) (by decide +kernel)
theorem kw1741 : Cond.instanceMethod yX9_step ∈ lwX := kw 1741 (by decide +kernel) (by decide +kernel)
theorem kw1742 : Cond.selects RX9 yX9_step yX9_step ∈ lwX := kw 1742 (by decide +kernel) (by decide +kernel)
theorem kw1743 : Cond.code yX9_step cX9_step 4 (some .int) ∈ lwX := kw 1743 (by decide +kernel) (by decide +kernel)
theorem kw1041 : Cond.methodLink RL 166 yL_claim ∈ lwX := kw 1041 (by decide +kernel) (by decide +kernel)
theorem kw1752 : Cond.methodLink RL 168 yX9_claim ∈ lwX := kw 1752 (by decide +kernel) (by decide +kernel)
theorem kw1753 : Cond.instanceMethod yX9_claim ∈ lwX := kw 1753 (by decide +kernel) (by decide +kernel)
theorem kw1754 : Cond.selects RX9 yX9_claim yX9_claim ∈ lwX := kw 1754 (by decide +kernel) (by decide +kernel)
theorem kw1755 : Cond.code yX9_claim cX9_claim 3 (some .int) ∈ lwX := kw 1755 (by decide +kernel) (by decide +kernel)
theorem kw1049 : Cond.methodLink RL 169 yL_abandon ∈ lwX := kw 1049 (by decide +kernel) (by decide +kernel)
theorem kw1756 : Cond.methodLink RL 171 yX9_abandon ∈ lwX := kw 1756 (by decide +kernel) (by decide +kernel)
theorem kw1757 : Cond.instanceMethod yX9_abandon ∈ lwX := kw 1757 (by decide +kernel) (by decide +kernel)
theorem kw1758 : Cond.selects RX9 yX9_abandon yX9_abandon ∈ lwX := kw 1758 (by decide +kernel) (by decide +kernel)
theorem kw1759 : Cond.code yX9_abandon cX9_abandon 3 (some .int) ∈ lwX := kw 1759 (by decide +kernel) (by decide +kernel)
theorem kw1057 : Cond.methodLink RL 172 yL_chase ∈ lwX := kw 1057 (by decide +kernel) (by decide +kernel)
theorem kw1760 : Cond.methodLink RL 174 yX9_chase ∈ lwX := kw 1760 (by decide +kernel) (by decide +kernel)
theorem kw1761 : Cond.instanceMethod yX9_chase ∈ lwX := kw 1761 (by decide +kernel) (by decide +kernel)
theorem kw1762 : Cond.selects RX9 yX9_chase yX9_chase ∈ lwX := kw 1762 (by decide +kernel) (by decide +kernel)
theorem kw1763 : Cond.code yX9_chase cX9_chase 4 (some .boolean) ∈ lwX := kw 1763 (by decide +kernel) (by decide +kernel)
theorem kw1066 : Cond.methodLink RL 175 yL_buyTruce ∈ lwX := kw 1066 (by decide +kernel) (by decide +kernel)
theorem kw1768 : Cond.methodLink RL 178 yX9_buyTruce ∈ lwX := kw 1768 (by decide +kernel) (by decide +kernel)
theorem kw1769 : Cond.instanceMethod yX9_buyTruce ∈ lwX := kw 1769 (by decide +kernel) (by decide +kernel)
theorem kw1770 : Cond.selects RX9 yX9_buyTruce yX9_buyTruce ∈ lwX := kw 1770 (by decide +kernel) (by decide +kernel)
theorem kw1771 : Cond.code yX9_buyTruce cX9_buyTruce 7 (some .int) ∈ lwX := kw 1771 (by decide +kernel) (by decide +kernel)
theorem kw1074 : Cond.methodLink RL 179 yL_nominate ∈ lwX := kw 1074 (by decide +kernel) (by decide +kernel)
theorem kw1772 : Cond.methodLink RL 181 yX9_nominate ∈ lwX := kw 1772 (by decide +kernel) (by decide +kernel)
theorem kw1773 : Cond.instanceMethod yX9_nominate ∈ lwX := kw 1773 (by decide +kernel) (by decide +kernel)
theorem kw1774 : Cond.selects RX9 yX9_nominate yX9_nominate ∈ lwX := kw 1774 (by decide +kernel) (by decide +kernel)
theorem kw1775 : Cond.code yX9_nominate cX9_nominate 3 (some .int) ∈ lwX := kw 1775 (by decide +kernel) (by decide +kernel)
theorem kw1083 : Cond.methodLink RL 182 yL_vote ∈ lwX := kw 1083 (by decide +kernel) (by decide +kernel)
theorem kw1776 : Cond.methodLink RL 185 yX9_vote ∈ lwX := kw 1776 (by decide +kernel) (by decide +kernel)
theorem kw1777 : Cond.instanceMethod yX9_vote ∈ lwX := kw 1777 (by decide +kernel) (by decide +kernel)
theorem kw1778 : Cond.selects RX9 yX9_vote yX9_vote ∈ lwX := kw 1778 (by decide +kernel) (by decide +kernel)
theorem kw1779 : Cond.code yX9_vote cX9_vote 4 (some .boolean) ∈ lwX := kw 1779 (by decide +kernel) (by decide +kernel)
theorem kw1092 : Cond.methodLink RL 186 yL_passNights ∈ lwX := kw 1092 (by decide +kernel) (by decide +kernel)
theorem kw1780 : Cond.methodLink RL 188 yX9_passNights ∈ lwX := kw 1780 (by decide +kernel) (by decide +kernel)
theorem kw1781 : Cond.instanceMethod yX9_passNights ∈ lwX := kw 1781 (by decide +kernel) (by decide +kernel)
theorem kw1782 : Cond.selects RX9 yX9_passNights yX9_passNights ∈ lwX := kw 1782 (by decide +kernel) (by decide +kernel)
theorem kw1783 : Cond.code yX9_passNights cX9_passNights 3 (some .int) ∈ lwX := kw 1783 (by decide +kernel) (by decide +kernel)
theorem kw732 : Cond.methodLink RL 189 yX8_undo ∈ lwX := kw 732 (by decide +kernel) (by decide +kernel)
theorem kw733 : Cond.instanceMethod yX8_undo ∈ lwX := kw 733 (by decide +kernel) (by decide +kernel)
theorem kw734 : Cond.selects RX8 yX8_undo yX8_undo ∈ lwX := kw 734 (by decide +kernel) (by decide +kernel)
theorem kw735 : Cond.code yX8_undo cX8_undo 1 (some .int) ∈ lwX := kw 735 (by decide +kernel) (by decide +kernel)
theorem kw1784 : Cond.methodLink RL 192 yX9_undo ∈ lwX := kw 1784 (by decide +kernel) (by decide +kernel)
theorem kw1785 : Cond.instanceMethod yX9_undo ∈ lwX := kw 1785 (by decide +kernel) (by decide +kernel)
theorem kw1786 : Cond.selects RX9 yX9_undo yX9_undo ∈ lwX := kw 1786 (by decide +kernel) (by decide +kernel)
theorem kw1787 : Cond.code yX9_undo cX9_undo 2 (some .int) ∈ lwX := kw 1787 (by decide +kernel) (by decide +kernel)
theorem kw740 : Cond.methodLink RL 193 yX8_undoCount ∈ lwX := kw 740 (by decide +kernel) (by decide +kernel)
theorem kw741 : Cond.instanceMethod yX8_undoCount ∈ lwX := kw 741 (by decide +kernel) (by decide +kernel)
theorem kw742 : Cond.selects RX8 yX8_undoCount yX8_undoCount ∈ lwX := kw 742 (by decide +kernel) (by decide +kernel)
theorem kw743 : Cond.code yX8_undoCount cX8_undoCount 1 (some .int) ∈ lwX := kw 743 (by decide +kernel) (by decide +kernel)
theorem kw1788 : Cond.methodLink RL 196 yX9_undoCount ∈ lwX := kw 1788 (by decide +kernel) (by decide +kernel)
theorem kw1789 : Cond.instanceMethod yX9_undoCount ∈ lwX := kw 1789 (by decide +kernel) (by decide +kernel)
theorem kw1790 : Cond.selects RX9 yX9_undoCount yX9_undoCount ∈ lwX := kw 1790 (by decide +kernel) (by decide +kernel)
theorem kw1791 : Cond.code yX9_undoCount cX9_undoCount 1 (some .int) ∈ lwX := kw 1791 (by decide +kernel) (by decide +kernel)
theorem kw744 : Cond.methodLink RL 197 yX8_saveSnapshot ∈ lwX := kw 744 (by decide +kernel) (by decide +kernel)
theorem kw745 : Cond.instanceMethod yX8_saveSnapshot ∈ lwX := kw 745 (by decide +kernel) (by decide +kernel)
theorem kw746 : Cond.selects RX8 yX8_saveSnapshot yX8_saveSnapshot ∈ lwX := kw 746 (by decide +kernel) (by decide +kernel)
theorem kw747 : Cond.code yX8_saveSnapshot cX8_saveSnapshot 1 (some .int) ∈ lwX := kw 747 (by decide +kernel) (by decide +kernel)
theorem kw1792 : Cond.methodLink RL 200 yX9_saveSnapshot ∈ lwX := kw 1792 (by decide +kernel) (by decide +kernel)
theorem kw1793 : Cond.instanceMethod yX9_saveSnapshot ∈ lwX := kw 1793 (by decide +kernel) (by decide +kernel)
theorem kw1794 : Cond.selects RX9 yX9_saveSnapshot yX9_saveSnapshot ∈ lwX := kw 1794 (by decide +kernel) (by decide +kernel)
theorem kw1795 : Cond.code yX9_saveSnapshot cX9_saveSnapshot 2 (some .int) ∈ lwX := kw 1795 (by decide +kernel) (by decide +kernel)
theorem kw1100 : Cond.methodLink RL 201 yL_restoreSnapshot ∈ lwX := kw 1100 (by decide +kernel) (by decide +kernel)
theorem kw1796 : Cond.methodLink RL 204 yX9_restoreSnapshot ∈ lwX := kw 1796 (by decide +kernel) (by decide +kernel)
theorem kw1797 : Cond.instanceMethod yX9_restoreSnapshot ∈ lwX := kw 1797 (by decide +kernel) (by decide +kernel)
theorem kw1798 : Cond.selects RX9 yX9_restoreSnapshot yX9_restoreSnapshot ∈ lwX := kw 1798 (by decide +kernel) (by decide +kernel)
theorem kw1799 : Cond.code yX9_restoreSnapshot cX9_restoreSnapshot 2 (some .int) ∈ lwX := kw 1799 (by decide +kernel) (by decide +kernel)
theorem kw748 : Cond.methodLink RL 205 yX8_scriptErrorKind ∈ lwX := kw 748 (by decide +kernel) (by decide +kernel)
theorem kw749 : Cond.instanceMethod yX8_scriptErrorKind ∈ lwX := kw 749 (by decide +kernel) (by decide +kernel)
theorem kw750 : Cond.selects RX8 yX8_scriptErrorKind yX8_scriptErrorKind ∈ lwX := kw 750 (by decide +kernel) (by decide +kernel)
theorem kw751 : Cond.code yX8_scriptErrorKind cX8_scriptErrorKind 1 (some .int) ∈ lwX := kw 751 (by decide +kernel) (by decide +kernel)
theorem kw1800 : Cond.methodLink RL 208 yX9_scriptErrorKind ∈ lwX := kw 1800 (by decide +kernel) (by decide +kernel)
theorem kw1801 : Cond.instanceMethod yX9_scriptErrorKind ∈ lwX := kw 1801 (by decide +kernel) (by decide +kernel)
theorem kw1802 : Cond.selects RX9 yX9_scriptErrorKind yX9_scriptErrorKind ∈ lwX := kw 1802 (by decide +kernel) (by decide +kernel)
theorem kw1803 : Cond.code yX9_scriptErrorKind cX9_scriptErrorKind 1 (some .int) ∈ lwX := kw 1803 (by decide +kernel) (by decide +kernel)
theorem kw752 : Cond.methodLink RL 209 yX8_scriptErrorOffset ∈ lwX := kw 752 (by decide +kernel) (by decide +kernel)
theorem kw753 : Cond.instanceMethod yX8_scriptErrorOffset ∈ lwX := kw 753 (by decide +kernel) (by decide +kernel)
theorem kw754 : Cond.selects RX8 yX8_scriptErrorOffset yX8_scriptErrorOffset ∈ lwX := kw 754 (by decide +kernel) (by decide +kernel)
theorem kw755 : Cond.code yX8_scriptErrorOffset cX8_scriptErrorOffset 1 (some .int) ∈ lwX := kw 755 (by decide +kernel) (by decide +kernel)
theorem kw1804 : Cond.methodLink RL 212 yX9_scriptErrorOffset ∈ lwX := kw 1804 (by decide +kernel) (by decide +kernel)
theorem kw1805 : Cond.instanceMethod yX9_scriptErrorOffset ∈ lwX := kw 1805 (by decide +kernel) (by decide +kernel)
theorem kw1806 : Cond.selects RX9 yX9_scriptErrorOffset yX9_scriptErrorOffset ∈ lwX := kw 1806 (by decide +kernel) (by decide +kernel)
theorem kw1807 : Cond.code yX9_scriptErrorOffset cX9_scriptErrorOffset 1 (some .int) ∈ lwX := kw 1807 (by decide +kernel) (by decide +kernel)
theorem kw756 : Cond.methodLink RL 213 yX8_chimneyCount ∈ lwX := kw 756 (by decide +kernel) (by decide +kernel)
theorem kw757 : Cond.instanceMethod yX8_chimneyCount ∈ lwX := kw 757 (by decide +kernel) (by decide +kernel)
theorem kw758 : Cond.selects RX8 yX8_chimneyCount yX8_chimneyCount ∈ lwX := kw 758 (by decide +kernel) (by decide +kernel)
theorem kw759 : Cond.code yX8_chimneyCount cX8_chimneyCount 1 (some .int) ∈ lwX := kw 759 (by decide +kernel) (by decide +kernel)
theorem kw1808 : Cond.methodLink RL 216 yX9_chimneyCount ∈ lwX := kw 1808 (by decide +kernel) (by decide +kernel)
theorem kw1809 : Cond.instanceMethod yX9_chimneyCount ∈ lwX := kw 1809 (by decide +kernel) (by decide +kernel)
theorem kw1810 : Cond.selects RX9 yX9_chimneyCount yX9_chimneyCount ∈ lwX := kw 1810 (by decide +kernel) (by decide +kernel)
theorem kw1811 : Cond.code yX9_chimneyCount cX9_chimneyCount 1 (some .int) ∈ lwX := kw 1811 (by decide +kernel) (by decide +kernel)
theorem kw760 : Cond.methodLink RL 217 yX8_gutterCount ∈ lwX := kw 760 (by decide +kernel) (by decide +kernel)
theorem kw761 : Cond.instanceMethod yX8_gutterCount ∈ lwX := kw 761 (by decide +kernel) (by decide +kernel)
theorem kw762 : Cond.selects RX8 yX8_gutterCount yX8_gutterCount ∈ lwX := kw 762 (by decide +kernel) (by decide +kernel)
theorem kw763 : Cond.code yX8_gutterCount cX8_gutterCount 1 (some .int) ∈ lwX := kw 763 (by decide +kernel) (by decide +kernel)
theorem kw1816 : Cond.methodLink RL 220 yX9_gutterCount ∈ lwX := kw 1816 (by decide +kernel) (by decide +kernel)
theorem kw1817 : Cond.instanceMethod yX9_gutterCount ∈ lwX := kw 1817 (by decide +kernel) (by decide +kernel)
theorem kw1818 : Cond.selects RX9 yX9_gutterCount yX9_gutterCount ∈ lwX := kw 1818 (by decide +kernel) (by decide +kernel)
theorem kw1819 : Cond.code yX9_gutterCount cX9_gutterCount 1 (some .int) ∈ lwX := kw 1819 (by decide +kernel) (by decide +kernel)
theorem kw764 : Cond.methodLink RL 221 yX8_catCount ∈ lwX := kw 764 (by decide +kernel) (by decide +kernel)
theorem kw765 : Cond.instanceMethod yX8_catCount ∈ lwX := kw 765 (by decide +kernel) (by decide +kernel)
theorem kw766 : Cond.selects RX8 yX8_catCount yX8_catCount ∈ lwX := kw 766 (by decide +kernel) (by decide +kernel)
theorem kw767 : Cond.code yX8_catCount cX8_catCount 1 (some .int) ∈ lwX := kw 767 (by decide +kernel) (by decide +kernel)
theorem kw1820 : Cond.methodLink RL 224 yX9_catCount ∈ lwX := kw 1820 (by decide +kernel) (by decide +kernel)
theorem kw1821 : Cond.instanceMethod yX9_catCount ∈ lwX := kw 1821 (by decide +kernel) (by decide +kernel)
theorem kw1822 : Cond.selects RX9 yX9_catCount yX9_catCount ∈ lwX := kw 1822 (by decide +kernel) (by decide +kernel)
theorem kw1823 : Cond.code yX9_catCount cX9_catCount 1 (some .int) ∈ lwX := kw 1823 (by decide +kernel) (by decide +kernel)
theorem kw768 : Cond.methodLink RL 225 yX8_night ∈ lwX := kw 768 (by decide +kernel) (by decide +kernel)
theorem kw769 : Cond.instanceMethod yX8_night ∈ lwX := kw 769 (by decide +kernel) (by decide +kernel)
theorem kw770 : Cond.selects RX8 yX8_night yX8_night ∈ lwX := kw 770 (by decide +kernel) (by decide +kernel)
theorem kw771 : Cond.code yX8_night cX8_night 1 (some .int) ∈ lwX := kw 771 (by decide +kernel) (by decide +kernel)
theorem kw1824 : Cond.methodLink RL 228 yX9_night ∈ lwX := kw 1824 (by decide +kernel) (by decide +kernel)
theorem kw1825 : Cond.instanceMethod yX9_night ∈ lwX := kw 1825 (by decide +kernel) (by decide +kernel)
theorem kw1826 : Cond.selects RX9 yX9_night yX9_night ∈ lwX := kw 1826 (by decide +kernel) (by decide +kernel)
theorem kw1827 : Cond.code yX9_night cX9_night 1 (some .int) ∈ lwX := kw 1827 (by decide +kernel) (by decide +kernel)
theorem kw772 : Cond.methodLink RL 229 yX8_moonPhase ∈ lwX := kw 772 (by decide +kernel) (by decide +kernel)
theorem kw773 : Cond.instanceMethod yX8_moonPhase ∈ lwX := kw 773 (by decide +kernel) (by decide +kernel)
theorem kw774 : Cond.selects RX8 yX8_moonPhase yX8_moonPhase ∈ lwX := kw 774 (by decide +kernel) (by decide +kernel)
theorem kw775 : Cond.code yX8_moonPhase cX8_moonPhase 1 (some .int) ∈ lwX := kw 775 (by decide +kernel) (by decide +kernel)
theorem kw1828 : Cond.methodLink RL 232 yX9_moonPhase ∈ lwX := kw 1828 (by decide +kernel) (by decide +kernel)
theorem kw1829 : Cond.instanceMethod yX9_moonPhase ∈ lwX := kw 1829 (by decide +kernel) (by decide +kernel)
theorem kw1830 : Cond.selects RX9 yX9_moonPhase yX9_moonPhase ∈ lwX := kw 1830 (by decide +kernel) (by decide +kernel)
theorem kw1831 : Cond.code yX9_moonPhase cX9_moonPhase 1 (some .int) ∈ lwX := kw 1831 (by decide +kernel) (by decide +kernel)
theorem kw1128 : Cond.methodLink RL 233 yL_warmth ∈ lwX := kw 1128 (by decide +kernel) (by decide +kernel)
theorem kw1832 : Cond.methodLink RL 235 yX9_warmth ∈ lwX := kw 1832 (by decide +kernel) (by decide +kernel)
theorem kw1833 : Cond.instanceMethod yX9_warmth ∈ lwX := kw 1833 (by decide +kernel) (by decide +kernel)
theorem kw1834 : Cond.selects RX9 yX9_warmth yX9_warmth ∈ lwX := kw 1834 (by decide +kernel) (by decide +kernel)
theorem kw1835 : Cond.code yX9_warmth cX9_warmth 2 (some .int) ∈ lwX := kw 1835 (by decide +kernel) (by decide +kernel)
theorem kw1135 : Cond.methodLink RL 236 yL_ownerOf ∈ lwX := kw 1135 (by decide +kernel) (by decide +kernel)
theorem kw1836 : Cond.methodLink RL 238 yX9_ownerOf ∈ lwX := kw 1836 (by decide +kernel) (by decide +kernel)
theorem kw1837 : Cond.instanceMethod yX9_ownerOf ∈ lwX := kw 1837 (by decide +kernel) (by decide +kernel)
theorem kw1838 : Cond.selects RX9 yX9_ownerOf yX9_ownerOf ∈ lwX := kw 1838 (by decide +kernel) (by decide +kernel)
theorem kw1839 : Cond.code yX9_ownerOf cX9_ownerOf 2 (some .int) ∈ lwX := kw 1839 (by decide +kernel) (by decide +kernel)
theorem kw1142 : Cond.methodLink RL 239 yL_catOn ∈ lwX := kw 1142 (by decide +kernel) (by decide +kernel)
theorem kw1840 : Cond.methodLink RL 241 yX9_catOn ∈ lwX := kw 1840 (by decide +kernel) (by decide +kernel)
theorem kw1841 : Cond.instanceMethod yX9_catOn ∈ lwX := kw 1841 (by decide +kernel) (by decide +kernel)
theorem kw1842 : Cond.selects RX9 yX9_catOn yX9_catOn ∈ lwX := kw 1842 (by decide +kernel) (by decide +kernel)
theorem kw1843 : Cond.code yX9_catOn cX9_catOn 2 (some .int) ∈ lwX := kw 1843 (by decide +kernel) (by decide +kernel)
theorem kw1150 : Cond.methodLink RL 242 yL_gutterEnds ∈ lwX := kw 1150 (by decide +kernel) (by decide +kernel)
theorem kw1844 : Cond.methodLink RL 244 yX9_gutterEnds ∈ lwX := kw 1844 (by decide +kernel) (by decide +kernel)
theorem kw1845 : Cond.instanceMethod yX9_gutterEnds ∈ lwX := kw 1845 (by decide +kernel) (by decide +kernel)
theorem kw1846 : Cond.selects RX9 yX9_gutterEnds yX9_gutterEnds ∈ lwX := kw 1846 (by decide +kernel) (by decide +kernel)
theorem kw1847 : Cond.code yX9_gutterEnds cX9_gutterEnds 2 (some .int) ∈ lwX := kw 1847 (by decide +kernel) (by decide +kernel)
theorem kw1157 : Cond.methodLink RL 245 yL_width ∈ lwX := kw 1157 (by decide +kernel) (by decide +kernel)
theorem kw1848 : Cond.methodLink RL 247 yX9_width ∈ lwX := kw 1848 (by decide +kernel) (by decide +kernel)
theorem kw1849 : Cond.instanceMethod yX9_width ∈ lwX := kw 1849 (by decide +kernel) (by decide +kernel)
theorem kw1850 : Cond.selects RX9 yX9_width yX9_width ∈ lwX := kw 1850 (by decide +kernel) (by decide +kernel)
theorem kw1851 : Cond.code yX9_width cX9_width 2 (some .int) ∈ lwX := kw 1851 (by decide +kernel) (by decide +kernel)
theorem kw1164 : Cond.methodLink RL 248 yL_widestWay ∈ lwX := kw 1164 (by decide +kernel) (by decide +kernel)
theorem kw1852 : Cond.methodLink RL 250 yX9_widestWay ∈ lwX := kw 1852 (by decide +kernel) (by decide +kernel)
theorem kw1853 : Cond.instanceMethod yX9_widestWay ∈ lwX := kw 1853 (by decide +kernel) (by decide +kernel)
theorem kw1854 : Cond.selects RX9 yX9_widestWay yX9_widestWay ∈ lwX := kw 1854 (by decide +kernel) (by decide +kernel)
theorem kw1855 : Cond.code yX9_widestWay cX9_widestWay 4 (some .int) ∈ lwX := kw 1855 (by decide +kernel) (by decide +kernel)
theorem kw776 : Cond.methodLink RL 251 yX8_warmestFree ∈ lwX := kw 776 (by decide +kernel) (by decide +kernel)
theorem kw777 : Cond.instanceMethod yX8_warmestFree ∈ lwX := kw 777 (by decide +kernel) (by decide +kernel)
theorem kw778 : Cond.selects RX8 yX8_warmestFree yX8_warmestFree ∈ lwX := kw 778 (by decide +kernel) (by decide +kernel)
theorem kw779 : Cond.code yX8_warmestFree cX8_warmestFree 1 (some .int) ∈ lwX := kw 779 (by decide +kernel) (by decide +kernel)
theorem kw1860 : Cond.methodLink RL 254 yX9_warmestFree ∈ lwX := kw 1860 (by decide +kernel) (by decide +kernel)
theorem kw1861 : Cond.instanceMethod yX9_warmestFree ∈ lwX := kw 1861 (by decide +kernel) (by decide +kernel)
theorem kw1862 : Cond.selects RX9 yX9_warmestFree yX9_warmestFree ∈ lwX := kw 1862 (by decide +kernel) (by decide +kernel)
theorem kw1863 : Cond.code yX9_warmestFree cX9_warmestFree 1 (some .int) ∈ lwX := kw 1863 (by decide +kernel) (by decide +kernel)
theorem kw1175 : Cond.methodLink RL 255 yL_girth ∈ lwX := kw 1175 (by decide +kernel) (by decide +kernel)
theorem kw1864 : Cond.methodLink RL 257 yX9_girth ∈ lwX := kw 1864 (by decide +kernel) (by decide +kernel)
theorem kw1865 : Cond.instanceMethod yX9_girth ∈ lwX := kw 1865 (by decide +kernel) (by decide +kernel)
theorem kw1866 : Cond.selects RX9 yX9_girth yX9_girth ∈ lwX := kw 1866 (by decide +kernel) (by decide +kernel)
theorem kw1867 : Cond.code yX9_girth cX9_girth 2 (some .int) ∈ lwX := kw 1867 (by decide +kernel) (by decide +kernel)
theorem kw1182 : Cond.methodLink RL 258 yL_power ∈ lwX := kw 1182 (by decide +kernel) (by decide +kernel)
theorem kw1872 : Cond.methodLink RL 260 yX9_power ∈ lwX := kw 1872 (by decide +kernel) (by decide +kernel)
theorem kw1873 : Cond.instanceMethod yX9_power ∈ lwX := kw 1873 (by decide +kernel) (by decide +kernel)
theorem kw1874 : Cond.selects RX9 yX9_power yX9_power ∈ lwX := kw 1874 (by decide +kernel) (by decide +kernel)
theorem kw1875 : Cond.code yX9_power cX9_power 2 (some .int) ∈ lwX := kw 1875 (by decide +kernel) (by decide +kernel)
theorem kw1190 : Cond.methodLink RL 261 yL_fish ∈ lwX := kw 1190 (by decide +kernel) (by decide +kernel)
theorem kw1876 : Cond.methodLink RL 263 yX9_fish ∈ lwX := kw 1876 (by decide +kernel) (by decide +kernel)
theorem kw1877 : Cond.instanceMethod yX9_fish ∈ lwX := kw 1877 (by decide +kernel) (by decide +kernel)
theorem kw1878 : Cond.selects RX9 yX9_fish yX9_fish ∈ lwX := kw 1878 (by decide +kernel) (by decide +kernel)
theorem kw1879 : Cond.code yX9_fish cX9_fish 2 (some .int) ∈ lwX := kw 1879 (by decide +kernel) (by decide +kernel)
theorem kw1197 : Cond.methodLink RL 264 yL_chimneyOf ∈ lwX := kw 1197 (by decide +kernel) (by decide +kernel)
theorem kw1880 : Cond.methodLink RL 266 yX9_chimneyOf ∈ lwX := kw 1880 (by decide +kernel) (by decide +kernel)
theorem kw1881 : Cond.instanceMethod yX9_chimneyOf ∈ lwX := kw 1881 (by decide +kernel) (by decide +kernel)
theorem kw1882 : Cond.selects RX9 yX9_chimneyOf yX9_chimneyOf ∈ lwX := kw 1882 (by decide +kernel) (by decide +kernel)
theorem kw1883 : Cond.code yX9_chimneyOf cX9_chimneyOf 2 (some .int) ∈ lwX := kw 1883 (by decide +kernel) (by decide +kernel)
theorem kw1204 : Cond.methodLink RL 267 yL_ownedChimneys ∈ lwX := kw 1204 (by decide +kernel) (by decide +kernel)
theorem kw1884 : Cond.methodLink RL 269 yX9_ownedChimneys ∈ lwX := kw 1884 (by decide +kernel) (by decide +kernel)
theorem kw1885 : Cond.instanceMethod yX9_ownedChimneys ∈ lwX := kw 1885 (by decide +kernel) (by decide +kernel)
theorem kw1886 : Cond.selects RX9 yX9_ownedChimneys yX9_ownedChimneys ∈ lwX := kw 1886 (by decide +kernel) (by decide +kernel)
theorem kw1887 : Cond.code yX9_ownedChimneys cX9_ownedChimneys 4 (some .int) ∈ lwX := kw 1887 (by decide +kernel) (by decide +kernel)
theorem kw1212 : Cond.methodLink RL 270 yL_truceNights ∈ lwX := kw 1212 (by decide +kernel) (by decide +kernel)
theorem kw1888 : Cond.methodLink RL 272 yX9_truceNights ∈ lwX := kw 1888 (by decide +kernel) (by decide +kernel)
theorem kw1889 : Cond.instanceMethod yX9_truceNights ∈ lwX := kw 1889 (by decide +kernel) (by decide +kernel)
theorem kw1890 : Cond.selects RX9 yX9_truceNights yX9_truceNights ∈ lwX := kw 1890 (by decide +kernel) (by decide +kernel)
theorem kw1891 : Cond.code yX9_truceNights cX9_truceNights 3 (some .int) ∈ lwX := kw 1891 (by decide +kernel) (by decide +kernel)
theorem kw1220 : Cond.methodLink RL 273 yL_reachable ∈ lwX := kw 1220 (by decide +kernel) (by decide +kernel)
theorem kw1892 : Cond.methodLink RL 275 yX9_reachable ∈ lwX := kw 1892 (by decide +kernel) (by decide +kernel)
theorem kw1893 : Cond.instanceMethod yX9_reachable ∈ lwX := kw 1893 (by decide +kernel) (by decide +kernel)
theorem kw1894 : Cond.selects RX9 yX9_reachable yX9_reachable ∈ lwX := kw 1894 (by decide +kernel) (by decide +kernel)
theorem kw1895 : Cond.code yX9_reachable cX9_reachable 4 (some .int) ∈ lwX := kw 1895 (by decide +kernel) (by decide +kernel)
theorem kw1231 : Cond.methodLink RL 276 yL_stepsTo ∈ lwX := kw 1231 (by decide +kernel) (by decide +kernel)
theorem kw1904 : Cond.methodLink RL 278 yX9_stepsTo ∈ lwX := kw 1904 (by decide +kernel) (by decide +kernel)
theorem kw1905 : Cond.instanceMethod yX9_stepsTo ∈ lwX := kw 1905 (by decide +kernel) (by decide +kernel)
theorem kw1906 : Cond.selects RX9 yX9_stepsTo yX9_stepsTo ∈ lwX := kw 1906 (by decide +kernel) (by decide +kernel)
theorem kw1907 : Cond.code yX9_stepsTo cX9_stepsTo 3 (some .int) ∈ lwX := kw 1907 (by decide +kernel) (by decide +kernel)
theorem kw1243 : Cond.methodLink RL 279 yL_openGutters ∈ lwX := kw 1243 (by decide +kernel) (by decide +kernel)
theorem kw1908 : Cond.methodLink RL 281 yX9_openGutters ∈ lwX := kw 1908 (by decide +kernel) (by decide +kernel)
theorem kw1909 : Cond.instanceMethod yX9_openGutters ∈ lwX := kw 1909 (by decide +kernel) (by decide +kernel)
theorem kw1910 : Cond.selects RX9 yX9_openGutters yX9_openGutters ∈ lwX := kw 1910 (by decide +kernel) (by decide +kernel)
theorem kw1911 : Cond.code yX9_openGutters cX9_openGutters 4 (some .int) ∈ lwX := kw 1911 (by decide +kernel) (by decide +kernel)
theorem kw1250 : Cond.methodLink RL 282 yL_whyNoStep ∈ lwX := kw 1250 (by decide +kernel) (by decide +kernel)
theorem kw1912 : Cond.methodLink RL 284 yX9_whyNoStep ∈ lwX := kw 1912 (by decide +kernel) (by decide +kernel)
theorem kw1913 : Cond.instanceMethod yX9_whyNoStep ∈ lwX := kw 1913 (by decide +kernel) (by decide +kernel)
theorem kw1914 : Cond.selects RX9 yX9_whyNoStep yX9_whyNoStep ∈ lwX := kw 1914 (by decide +kernel) (by decide +kernel)
theorem kw1915 : Cond.code yX9_whyNoStep cX9_whyNoStep 3 (some .int) ∈ lwX := kw 1915 (by decide +kernel) (by decide +kernel)
theorem kw1257 : Cond.methodLink RL 285 yL_whyNoClaim ∈ lwX := kw 1257 (by decide +kernel) (by decide +kernel)
theorem kw1916 : Cond.methodLink RL 287 yX9_whyNoClaim ∈ lwX := kw 1916 (by decide +kernel) (by decide +kernel)
theorem kw1917 : Cond.instanceMethod yX9_whyNoClaim ∈ lwX := kw 1917 (by decide +kernel) (by decide +kernel)
theorem kw1918 : Cond.selects RX9 yX9_whyNoClaim yX9_whyNoClaim ∈ lwX := kw 1918 (by decide +kernel) (by decide +kernel)
theorem kw1919 : Cond.code yX9_whyNoClaim cX9_whyNoClaim 2 (some .int) ∈ lwX := kw 1919 (by decide +kernel) (by decide +kernel)
theorem kw1264 : Cond.methodLink RL 288 yL_whyNoChase ∈ lwX := kw 1264 (by decide +kernel) (by decide +kernel)
theorem kw1920 : Cond.methodLink RL 290 yX9_whyNoChase ∈ lwX := kw 1920 (by decide +kernel) (by decide +kernel)
theorem kw1921 : Cond.instanceMethod yX9_whyNoChase ∈ lwX := kw 1921 (by decide +kernel) (by decide +kernel)
theorem kw1922 : Cond.selects RX9 yX9_whyNoChase yX9_whyNoChase ∈ lwX := kw 1922 (by decide +kernel) (by decide +kernel)
theorem kw1923 : Cond.code yX9_whyNoChase cX9_whyNoChase 3 (some .int) ∈ lwX := kw 1923 (by decide +kernel) (by decide +kernel)
theorem kw1271 : Cond.methodLink RL 291 yL_preyOf ∈ lwX := kw 1271 (by decide +kernel) (by decide +kernel)
theorem kw1924 : Cond.methodLink RL 293 yX9_preyOf ∈ lwX := kw 1924 (by decide +kernel) (by decide +kernel)
theorem kw1925 : Cond.instanceMethod yX9_preyOf ∈ lwX := kw 1925 (by decide +kernel) (by decide +kernel)
theorem kw1926 : Cond.selects RX9 yX9_preyOf yX9_preyOf ∈ lwX := kw 1926 (by decide +kernel) (by decide +kernel)
theorem kw1927 : Cond.code yX9_preyOf cX9_preyOf 4 (some .int) ∈ lwX := kw 1927 (by decide +kernel) (by decide +kernel)
theorem kw781 : Cond.methodLink RL 294 yX8_isKittenWaiting ∈ lwX := kw 781 (by decide +kernel) (by decide +kernel)
theorem kw782 : Cond.instanceMethod yX8_isKittenWaiting ∈ lwX := kw 782 (by decide +kernel) (by decide +kernel)
theorem kw783 : Cond.selects RX8 yX8_isKittenWaiting yX8_isKittenWaiting ∈ lwX := kw 783 (by decide +kernel) (by decide +kernel)
theorem kw784 : Cond.code yX8_isKittenWaiting cX8_isKittenWaiting 1 (some .boolean) ∈ lwX := kw 784 (by decide +kernel) (by decide +kernel)
theorem kw1928 : Cond.methodLink RL 298 yX9_isKittenWaiting ∈ lwX := kw 1928 (by decide +kernel) (by decide +kernel)
theorem kw1929 : Cond.instanceMethod yX9_isKittenWaiting ∈ lwX := kw 1929 (by decide +kernel) (by decide +kernel)
theorem kw1930 : Cond.selects RX9 yX9_isKittenWaiting yX9_isKittenWaiting ∈ lwX := kw 1930 (by decide +kernel) (by decide +kernel)
theorem kw1931 : Cond.code yX9_isKittenWaiting cX9_isKittenWaiting 1 (some .boolean) ∈ lwX := kw 1931 (by decide +kernel) (by decide +kernel)
theorem kw785 : Cond.methodLink RL 299 yX8_votesFor ∈ lwX := kw 785 (by decide +kernel) (by decide +kernel)
theorem kw786 : Cond.instanceMethod yX8_votesFor ∈ lwX := kw 786 (by decide +kernel) (by decide +kernel)
theorem kw787 : Cond.selects RX8 yX8_votesFor yX8_votesFor ∈ lwX := kw 787 (by decide +kernel) (by decide +kernel)
theorem kw788 : Cond.code yX8_votesFor cX8_votesFor 1 (some .int) ∈ lwX := kw 788 (by decide +kernel) (by decide +kernel)
theorem kw1932 : Cond.methodLink RL 302 yX9_votesFor ∈ lwX := kw 1932 (by decide +kernel) (by decide +kernel)
theorem kw1933 : Cond.instanceMethod yX9_votesFor ∈ lwX := kw 1933 (by decide +kernel) (by decide +kernel)
theorem kw1934 : Cond.selects RX9 yX9_votesFor yX9_votesFor ∈ lwX := kw 1934 (by decide +kernel) (by decide +kernel)
theorem kw1935 : Cond.code yX9_votesFor cX9_votesFor 1 (some .int) ∈ lwX := kw 1935 (by decide +kernel) (by decide +kernel)
theorem kw790 : Cond.methodLink RL 303 yX8_votesAgainst ∈ lwX := kw 790 (by decide +kernel) (by decide +kernel)
theorem kw791 : Cond.instanceMethod yX8_votesAgainst ∈ lwX := kw 791 (by decide +kernel) (by decide +kernel)
theorem kw792 : Cond.selects RX8 yX8_votesAgainst yX8_votesAgainst ∈ lwX := kw 792 (by decide +kernel) (by decide +kernel)
theorem kw793 : Cond.code yX8_votesAgainst cX8_votesAgainst 1 (some .int) ∈ lwX := kw 793 (by decide +kernel) (by decide +kernel)
theorem kw1936 : Cond.methodLink RL 306 yX9_votesAgainst ∈ lwX := kw 1936 (by decide +kernel) (by decide +kernel)
theorem kw1937 : Cond.instanceMethod yX9_votesAgainst ∈ lwX := kw 1937 (by decide +kernel) (by decide +kernel)
theorem kw1938 : Cond.selects RX9 yX9_votesAgainst yX9_votesAgainst ∈ lwX := kw 1938 (by decide +kernel) (by decide +kernel)
theorem kw1939 : Cond.code yX9_votesAgainst cX9_votesAgainst 1 (some .int) ∈ lwX := kw 1939 (by decide +kernel) (by decide +kernel)
theorem kw1278 : Cond.methodLink RL 307 yL_hasVoted ∈ lwX := kw 1278 (by decide +kernel) (by decide +kernel)
theorem kw1940 : Cond.methodLink RL 309 yX9_hasVoted ∈ lwX := kw 1940 (by decide +kernel) (by decide +kernel)
theorem kw1941 : Cond.instanceMethod yX9_hasVoted ∈ lwX := kw 1941 (by decide +kernel) (by decide +kernel)
theorem kw1942 : Cond.selects RX9 yX9_hasVoted yX9_hasVoted ∈ lwX := kw 1942 (by decide +kernel) (by decide +kernel)
theorem kw1943 : Cond.code yX9_hasVoted cX9_hasVoted 2 (some .boolean) ∈ lwX := kw 1943 (by decide +kernel) (by decide +kernel)
theorem kw1285 : Cond.methodLink RL 310 yL_choirOf ∈ lwX := kw 1285 (by decide +kernel) (by decide +kernel)
theorem kw1944 : Cond.methodLink RL 312 yX9_choirOf ∈ lwX := kw 1944 (by decide +kernel) (by decide +kernel)
theorem kw1945 : Cond.instanceMethod yX9_choirOf ∈ lwX := kw 1945 (by decide +kernel) (by decide +kernel)
theorem kw1946 : Cond.selects RX9 yX9_choirOf yX9_choirOf ∈ lwX := kw 1946 (by decide +kernel) (by decide +kernel)
theorem kw1947 : Cond.code yX9_choirOf cX9_choirOf 2 (some .int) ∈ lwX := kw 1947 (by decide +kernel) (by decide +kernel)
theorem kw794 : Cond.methodLink RL 313 yX8_choirCount ∈ lwX := kw 794 (by decide +kernel) (by decide +kernel)
theorem kw795 : Cond.instanceMethod yX8_choirCount ∈ lwX := kw 795 (by decide +kernel) (by decide +kernel)
theorem kw796 : Cond.selects RX8 yX8_choirCount yX8_choirCount ∈ lwX := kw 796 (by decide +kernel) (by decide +kernel)
theorem kw797 : Cond.code yX8_choirCount cX8_choirCount 4 (some .int) ∈ lwX := kw 797 (by decide +kernel) (by decide +kernel)
theorem kw1948 : Cond.methodLink RL 316 yX9_choirCount ∈ lwX := kw 1948 (by decide +kernel) (by decide +kernel)
theorem kw1949 : Cond.instanceMethod yX9_choirCount ∈ lwX := kw 1949 (by decide +kernel) (by decide +kernel)
theorem kw1950 : Cond.selects RX9 yX9_choirCount yX9_choirCount ∈ lwX := kw 1950 (by decide +kernel) (by decide +kernel)
theorem kw1951 : Cond.code yX9_choirCount cX9_choirCount 3 (some .int) ∈ lwX := kw 1951 (by decide +kernel) (by decide +kernel)
theorem kw799 : Cond.methodLink RL 317 yX8_largestChoir ∈ lwX := kw 799 (by decide +kernel) (by decide +kernel)
theorem kw800 : Cond.instanceMethod yX8_largestChoir ∈ lwX := kw 800 (by decide +kernel) (by decide +kernel)
theorem kw801 : Cond.selects RX8 yX8_largestChoir yX8_largestChoir ∈ lwX := kw 801 (by decide +kernel) (by decide +kernel)
theorem kw802 : Cond.code yX8_largestChoir cX8_largestChoir 1 (some .int) ∈ lwX := kw 802 (by decide +kernel) (by decide +kernel)
theorem kw1952 : Cond.methodLink RL 320 yX9_largestChoir ∈ lwX := kw 1952 (by decide +kernel) (by decide +kernel)
theorem kw1953 : Cond.instanceMethod yX9_largestChoir ∈ lwX := kw 1953 (by decide +kernel) (by decide +kernel)
theorem kw1954 : Cond.selects RX9 yX9_largestChoir yX9_largestChoir ∈ lwX := kw 1954 (by decide +kernel) (by decide +kernel)
theorem kw1955 : Cond.code yX9_largestChoir cX9_largestChoir 1 (some .int) ∈ lwX := kw 1955 (by decide +kernel) (by decide +kernel)
theorem kw804 : Cond.methodLink RL 321 yX8_nightsToFullMoon ∈ lwX := kw 804 (by decide +kernel) (by decide +kernel)
theorem kw805 : Cond.instanceMethod yX8_nightsToFullMoon ∈ lwX := kw 805 (by decide +kernel) (by decide +kernel)
theorem kw806 : Cond.selects RX8 yX8_nightsToFullMoon yX8_nightsToFullMoon ∈ lwX := kw 806 (by decide +kernel) (by decide +kernel)
theorem kw807 : Cond.code yX8_nightsToFullMoon cX8_nightsToFullMoon 2 (some .int) ∈ lwX := kw 807 (by decide +kernel) (by decide +kernel)
theorem kw1956 : Cond.methodLink RL 324 yX9_nightsToFullMoon ∈ lwX := kw 1956 (by decide +kernel) (by decide +kernel)
theorem kw1957 : Cond.instanceMethod yX9_nightsToFullMoon ∈ lwX := kw 1957 (by decide +kernel) (by decide +kernel)
theorem kw1958 : Cond.selects RX9 yX9_nightsToFullMoon yX9_nightsToFullMoon ∈ lwX := kw 1958 (by decide +kernel) (by decide +kernel)
theorem kw1959 : Cond.code yX9_nightsToFullMoon cX9_nightsToFullMoon 2 (some .int) ∈ lwX := kw 1959 (by decide +kernel) (by decide +kernel)
theorem kw1292 : Cond.methodLink RL 325 yL_fishAfter ∈ lwX := kw 1292 (by decide +kernel) (by decide +kernel)
theorem kw1960 : Cond.methodLink RL 327 yX9_fishAfter ∈ lwX := kw 1960 (by decide +kernel) (by decide +kernel)
theorem kw1961 : Cond.instanceMethod yX9_fishAfter ∈ lwX := kw 1961 (by decide +kernel) (by decide +kernel)
theorem kw1962 : Cond.selects RX9 yX9_fishAfter yX9_fishAfter ∈ lwX := kw 1962 (by decide +kernel) (by decide +kernel)
theorem kw1963 : Cond.code yX9_fishAfter cX9_fishAfter 5 (some .int) ∈ lwX := kw 1963 (by decide +kernel) (by decide +kernel)
theorem kw808 : Cond.methodLink RL 328 yX8_richestCat ∈ lwX := kw 808 (by decide +kernel) (by decide +kernel)
theorem kw809 : Cond.instanceMethod yX8_richestCat ∈ lwX := kw 809 (by decide +kernel) (by decide +kernel)
theorem kw810 : Cond.selects RX8 yX8_richestCat yX8_richestCat ∈ lwX := kw 810 (by decide +kernel) (by decide +kernel)
theorem kw811 : Cond.code yX8_richestCat cX8_richestCat 4 (some .int) ∈ lwX := kw 811 (by decide +kernel) (by decide +kernel)
theorem kw1964 : Cond.methodLink RL 331 yX9_richestCat ∈ lwX := kw 1964 (by decide +kernel) (by decide +kernel)
theorem kw1965 : Cond.instanceMethod yX9_richestCat ∈ lwX := kw 1965 (by decide +kernel) (by decide +kernel)
theorem kw1966 : Cond.selects RX9 yX9_richestCat yX9_richestCat ∈ lwX := kw 1966 (by decide +kernel) (by decide +kernel)
theorem kw1967 : Cond.code yX9_richestCat cX9_richestCat 3 (some .int) ∈ lwX := kw 1967 (by decide +kernel) (by decide +kernel)
theorem kw812 : Cond.methodLink RL 332 yX8_totalFish ∈ lwX := kw 812 (by decide +kernel) (by decide +kernel)
theorem kw813 : Cond.instanceMethod yX8_totalFish ∈ lwX := kw 813 (by decide +kernel) (by decide +kernel)
theorem kw814 : Cond.selects RX8 yX8_totalFish yX8_totalFish ∈ lwX := kw 814 (by decide +kernel) (by decide +kernel)
theorem kw815 : Cond.code yX8_totalFish cX8_totalFish 1 (some .int) ∈ lwX := kw 815 (by decide +kernel) (by decide +kernel)
theorem kw1968 : Cond.methodLink RL 335 yX9_totalFish ∈ lwX := kw 1968 (by decide +kernel) (by decide +kernel)
theorem kw1969 : Cond.instanceMethod yX9_totalFish ∈ lwX := kw 1969 (by decide +kernel) (by decide +kernel)
theorem kw1970 : Cond.selects RX9 yX9_totalFish yX9_totalFish ∈ lwX := kw 1970 (by decide +kernel) (by decide +kernel)
theorem kw1971 : Cond.code yX9_totalFish cX9_totalFish 1 (some .int) ∈ lwX := kw 1971 (by decide +kernel) (by decide +kernel)
theorem kw820 : Cond.methodLink RL 336 yX8_meanFish ∈ lwX := kw 820 (by decide +kernel) (by decide +kernel)
theorem kw821 : Cond.instanceMethod yX8_meanFish ∈ lwX := kw 821 (by decide +kernel) (by decide +kernel)
theorem kw822 : Cond.selects RX8 yX8_meanFish yX8_meanFish ∈ lwX := kw 822 (by decide +kernel) (by decide +kernel)
theorem kw823 : Cond.code yX8_meanFish cX8_meanFish 1 (some .double) ∈ lwX := kw 823 (by decide +kernel) (by decide +kernel)
theorem kw1976 : Cond.methodLink RL 340 yX9_meanFish ∈ lwX := kw 1976 (by decide +kernel) (by decide +kernel)
theorem kw1977 : Cond.instanceMethod yX9_meanFish ∈ lwX := kw 1977 (by decide +kernel) (by decide +kernel)
theorem kw1978 : Cond.selects RX9 yX9_meanFish yX9_meanFish ∈ lwX := kw 1978 (by decide +kernel) (by decide +kernel)
theorem kw1979 : Cond.code yX9_meanFish cX9_meanFish 1 (some .double) ∈ lwX := kw 1979 (by decide +kernel) (by decide +kernel)
theorem kw824 : Cond.methodLink RL 341 yX8_ownedShare ∈ lwX := kw 824 (by decide +kernel) (by decide +kernel)
theorem kw825 : Cond.instanceMethod yX8_ownedShare ∈ lwX := kw 825 (by decide +kernel) (by decide +kernel)
theorem kw826 : Cond.selects RX8 yX8_ownedShare yX8_ownedShare ∈ lwX := kw 826 (by decide +kernel) (by decide +kernel)
theorem kw827 : Cond.code yX8_ownedShare cX8_ownedShare 3 (some .float) ∈ lwX := kw 827 (by decide +kernel) (by decide +kernel)
theorem kw1980 : Cond.methodLink RL 345 yX9_ownedShare ∈ lwX := kw 1980 (by decide +kernel) (by decide +kernel)
theorem kw1981 : Cond.instanceMethod yX9_ownedShare ∈ lwX := kw 1981 (by decide +kernel) (by decide +kernel)
theorem kw1982 : Cond.selects RX9 yX9_ownedShare yX9_ownedShare ∈ lwX := kw 1982 (by decide +kernel) (by decide +kernel)
theorem kw1983 : Cond.code yX9_ownedShare cX9_ownedShare 3 (some .float) ∈ lwX := kw 1983 (by decide +kernel) (by decide +kernel)
theorem kw828 : Cond.methodLink RL 346 yX8_violations ∈ lwX := kw 828 (by decide +kernel) (by decide +kernel)
theorem kw829 : Cond.instanceMethod yX8_violations ∈ lwX := kw 829 (by decide +kernel) (by decide +kernel)
theorem kw830 : Cond.selects RX8 yX8_violations yX8_violations ∈ lwX := kw 830 (by decide +kernel) (by decide +kernel)
theorem kw831 : Cond.code yX8_violations cX8_violations 1 (some .int) ∈ lwX := kw 831 (by decide +kernel) (by decide +kernel)
theorem kw1984 : Cond.methodLink RL 349 yX9_violations ∈ lwX := kw 1984 (by decide +kernel) (by decide +kernel)
theorem kw1985 : Cond.instanceMethod yX9_violations ∈ lwX := kw 1985 (by decide +kernel) (by decide +kernel)
theorem kw1986 : Cond.selects RX9 yX9_violations yX9_violations ∈ lwX := kw 1986 (by decide +kernel) (by decide +kernel)
theorem kw1987 : Cond.code yX9_violations cX9_violations 4 (some .int) ∈ lwX := kw 1987 (by decide +kernel) (by decide +kernel)
theorem kw848 : Cond.methodLink RL 350 yX8_writeRoof ∈ lwX := kw 848 (by decide +kernel) (by decide +kernel)
theorem kw849 : Cond.instanceMethod yX8_writeRoof ∈ lwX := kw 849 (by decide +kernel) (by decide +kernel)
theorem kw850 : Cond.selects RX8 yX8_writeRoof yX8_writeRoof ∈ lwX := kw 850 (by decide +kernel) (by decide +kernel)
theorem kw851 : Cond.code yX8_writeRoof cX8_writeRoof 1 (some .int) ∈ lwX := kw 851 (by decide +kernel) (by decide +kernel)
theorem kw1992 : Cond.methodLink RL 353 yX9_writeRoof ∈ lwX := kw 1992 (by decide +kernel) (by decide +kernel)
theorem kw1993 : Cond.instanceMethod yX9_writeRoof ∈ lwX := kw 1993 (by decide +kernel) (by decide +kernel)
theorem kw1994 : Cond.selects RX9 yX9_writeRoof yX9_writeRoof ∈ lwX := kw 1994 (by decide +kernel) (by decide +kernel)
theorem kw1995 : Cond.code yX9_writeRoof cX9_writeRoof 2 (some .int) ∈ lwX := kw 1995 (by decide +kernel) (by decide +kernel)
theorem kw865 : Cond.methodLink RL 354 yX8_reportByte ∈ lwX := kw 865 (by decide +kernel) (by decide +kernel)
theorem kw866 : Cond.instanceMethod yX8_reportByte ∈ lwX := kw 866 (by decide +kernel) (by decide +kernel)
theorem kw867 : Cond.selects RX8 yX8_reportByte yX8_reportByte ∈ lwX := kw 867 (by decide +kernel) (by decide +kernel)
theorem kw868 : Cond.code yX8_reportByte cX8_reportByte 2 (some .int) ∈ lwX := kw 868 (by decide +kernel) (by decide +kernel)
theorem kw2004 : Cond.methodLink RL 357 yX9_reportByte ∈ lwX := kw 2004 (by decide +kernel) (by decide +kernel)
theorem kw2005 : Cond.instanceMethod yX9_reportByte ∈ lwX := kw 2005 (by decide +kernel) (by decide +kernel)
theorem kw2006 : Cond.selects RX9 yX9_reportByte yX9_reportByte ∈ lwX := kw 2006 (by decide +kernel) (by decide +kernel)
theorem kw2007 : Cond.code yX9_reportByte cX9_reportByte 2 (some .int) ∈ lwX := kw 2007 (by decide +kernel) (by decide +kernel)
theorem m_X8_append : xMem yX8_append RX8 cX8_append 7 (some .int) 5 := ⟨kw451, kw452, kw116, kw453, by decide +kernel, by decide +kernel, by decide +kernel, by decide +kernel⟩
theorem m_X9_append : xMem yX9_append RX9 cX9_append 6 (some .int) 5 := ⟨kw1686, kw1687, kw125, kw1688, by decide +kernel, by decide +kernel, by decide +kernel, by decide +kernel⟩
theorem m_X9_truncateInput : xMem yX9_truncateInput RX9 cX9_truncateInput 2 (some .int) 1 := ⟨kw1694, kw1695, kw125, kw1696, by decide +kernel, by decide +kernel, by decide +kernel, by decide +kernel⟩
theorem m_X9_thrown : xMem yX9_thrown RX9 cX9_thrown 1 (some .int) 0 := ⟨kw1682, kw1683, kw125, kw1684, by decide +kernel, by decide +kernel, by decide +kernel, by decide +kernel⟩
theorem m_X8_runScript : xMem yX8_runScript RX8 cX8_runScript 1 (some .int) 0 := ⟨kw459, kw460, kw116, kw461, by decide +kernel, by decide +kernel, by decide +kernel, by decide +kernel⟩
theorem m_X9_runScript : xMem yX9_runScript RX9 cX9_runScript 2 (some .int) 0 := ⟨kw1702, kw1703, kw125, kw1704, by decide +kernel, by decide +kernel, by decide +kernel, by decide +kernel⟩
theorem m_X9_addChimney : xMem yX9_addChimney RX9 cX9_addChimney 2 (some .int) 1 := ⟨kw1714, kw1715, kw125, kw1716, by decide +kernel, by decide +kernel, by decide +kernel, by decide +kernel⟩
theorem m_X9_addGutter : xMem yX9_addGutter RX9 cX9_addGutter 4 (some .int) 3 := ⟨kw1722, kw1723, kw125, kw1724, by decide +kernel, by decide +kernel, by decide +kernel, by decide +kernel⟩
theorem m_X9_addCat : xMem yX9_addCat RX9 cX9_addCat 5 (some .int) 3 := ⟨kw1734, kw1735, kw125, kw1736, by decide +kernel, by decide +kernel, by decide +kernel, by decide +kernel⟩
theorem m_X9_step : xMem yX9_step RX9 cX9_step 4 (some .int) 2 := ⟨kw1741, kw1742, kw125, kw1743, by decide +kernel, by decide +kernel, by decide +kernel, by decide +kernel⟩
theorem m_X9_claim : xMem yX9_claim RX9 cX9_claim 3 (some .int) 1 := ⟨kw1753, kw1754, kw125, kw1755, by decide +kernel, by decide +kernel, by decide +kernel, by decide +kernel⟩
theorem m_X9_abandon : xMem yX9_abandon RX9 cX9_abandon 3 (some .int) 1 := ⟨kw1757, kw1758, kw125, kw1759, by decide +kernel, by decide +kernel, by decide +kernel, by decide +kernel⟩
theorem m_X9_chase : xMem yX9_chase RX9 cX9_chase 4 (some .boolean) 2 := ⟨kw1761, kw1762, kw125, kw1763, by decide +kernel, by decide +kernel, by decide +kernel, by decide +kernel⟩
theorem m_X9_buyTruce : xMem yX9_buyTruce RX9 cX9_buyTruce 7 (some .int) 4 := ⟨kw1769, kw1770, kw125, kw1771, by decide +kernel, by decide +kernel, by decide +kernel, by decide +kernel⟩
theorem m_X9_nominate : xMem yX9_nominate RX9 cX9_nominate 3 (some .int) 2 := ⟨kw1773, kw1774, kw125, kw1775, by decide +kernel, by decide +kernel, by decide +kernel, by decide +kernel⟩
theorem m_X9_vote : xMem yX9_vote RX9 cX9_vote 4 (some .boolean) 2 := ⟨kw1777, kw1778, kw125, kw1779, by decide +kernel, by decide +kernel, by decide +kernel, by decide +kernel⟩
theorem m_X9_passNights : xMem yX9_passNights RX9 cX9_passNights 3 (some .int) 1 := ⟨kw1781, kw1782, kw125, kw1783, by decide +kernel, by decide +kernel, by decide +kernel, by decide +kernel⟩
theorem m_X8_undo : xMem yX8_undo RX8 cX8_undo 1 (some .int) 0 := ⟨kw733, kw734, kw116, kw735, by decide +kernel, by decide +kernel, by decide +kernel, by decide +kernel⟩
theorem m_X9_undo : xMem yX9_undo RX9 cX9_undo 2 (some .int) 0 := ⟨kw1785, kw1786, kw125, kw1787, by decide +kernel, by decide +kernel, by decide +kernel, by decide +kernel⟩
theorem m_X8_undoCount : xMem yX8_undoCount RX8 cX8_undoCount 1 (some .int) 0 := ⟨kw741, kw742, kw116, kw743, by decide +kernel, by decide +kernel, by decide +kernel, by decide +kernel⟩
theorem m_X9_undoCount : xMem yX9_undoCount RX9 cX9_undoCount 1 (some .int) 0 := ⟨kw1789, kw1790, kw125, kw1791, by decide +kernel, by decide +kernel, by decide +kernel, by decide +kernel⟩
theorem m_X8_saveSnapshot : xMem yX8_saveSnapshot RX8 cX8_saveSnapshot 1 (some .int) 0 := ⟨kw745, kw746, kw116, kw747, by decide +kernel, by decide +kernel, by decide +kernel, by decide +kernel⟩
theorem m_X9_saveSnapshot : xMem yX9_saveSnapshot RX9 cX9_saveSnapshot 2 (some .int) 0 := ⟨kw1793, kw1794, kw125, kw1795, by decide +kernel, by decide +kernel, by decide +kernel, by decide +kernel⟩
theorem m_X9_restoreSnapshot : xMem yX9_restoreSnapshot RX9 cX9_restoreSnapshot 2 (some .int) 0 := ⟨kw1797, kw1798, kw125, kw1799, by decide +kernel, by decide +kernel, by decide +kernel, by decide +kernel⟩
theorem m_X8_scriptErrorKind : xMem yX8_scriptErrorKind RX8 cX8_scriptErrorKind 1 (some .int) 0 := ⟨kw749, kw750, kw116, kw751, by decide +kernel, by decide +kernel, by decide +kernel, by decide +kernel⟩
theorem m_X9_scriptErrorKind : xMem yX9_scriptErrorKind RX9 cX9_scriptErrorKind 1 (some .int) 0 := ⟨kw1801, kw1802, kw125, kw1803, by decide +kernel, by decide +kernel, by decide +kernel, by decide +kernel⟩
theorem m_X8_scriptErrorOffset : xMem yX8_scriptErrorOffset RX8 cX8_scriptErrorOffset 1 (some .int) 0 := ⟨kw753, kw754, kw116, kw755, by decide +kernel, by decide +kernel, by decide +kernel, by decide +kernel⟩
theorem m_X9_scriptErrorOffset : xMem yX9_scriptErrorOffset RX9 cX9_scriptErrorOffset 1 (some .int) 0 := ⟨kw1805, kw1806, kw125, kw1807, by decide +kernel, by decide +kernel, by decide +kernel, by decide +kernel⟩
theorem m_X8_chimneyCount : xMem yX8_chimneyCount RX8 cX8_chimneyCount 1 (some .int) 0 := ⟨kw757, kw758, kw116, kw759, by decide +kernel, by decide +kernel, by decide +kernel, by decide +kernel⟩
theorem m_X9_chimneyCount : xMem yX9_chimneyCount RX9 cX9_chimneyCount 1 (some .int) 0 := ⟨kw1809, kw1810, kw125, kw1811, by decide +kernel, by decide +kernel, by decide +kernel, by decide +kernel⟩
theorem m_X8_gutterCount : xMem yX8_gutterCount RX8 cX8_gutterCount 1 (some .int) 0 := ⟨kw761, kw762, kw116, kw763, by decide +kernel, by decide +kernel, by decide +kernel, by decide +kernel⟩
theorem m_X9_gutterCount : xMem yX9_gutterCount RX9 cX9_gutterCount 1 (some .int) 0 := ⟨kw1817, kw1818, kw125, kw1819, by decide +kernel, by decide +kernel, by decide +kernel, by decide +kernel⟩
theorem m_X8_catCount : xMem yX8_catCount RX8 cX8_catCount 1 (some .int) 0 := ⟨kw765, kw766, kw116, kw767, by decide +kernel, by decide +kernel, by decide +kernel, by decide +kernel⟩
theorem m_X9_catCount : xMem yX9_catCount RX9 cX9_catCount 1 (some .int) 0 := ⟨kw1821, kw1822, kw125, kw1823, by decide +kernel, by decide +kernel, by decide +kernel, by decide +kernel⟩
theorem m_X8_night : xMem yX8_night RX8 cX8_night 1 (some .int) 0 := ⟨kw769, kw770, kw116, kw771, by decide +kernel, by decide +kernel, by decide +kernel, by decide +kernel⟩
theorem m_X9_night : xMem yX9_night RX9 cX9_night 1 (some .int) 0 := ⟨kw1825, kw1826, kw125, kw1827, by decide +kernel, by decide +kernel, by decide +kernel, by decide +kernel⟩
theorem m_X8_moonPhase : xMem yX8_moonPhase RX8 cX8_moonPhase 1 (some .int) 0 := ⟨kw773, kw774, kw116, kw775, by decide +kernel, by decide +kernel, by decide +kernel, by decide +kernel⟩
theorem m_X9_moonPhase : xMem yX9_moonPhase RX9 cX9_moonPhase 1 (some .int) 0 := ⟨kw1829, kw1830, kw125, kw1831, by decide +kernel, by decide +kernel, by decide +kernel, by decide +kernel⟩
theorem m_X9_warmth : xMem yX9_warmth RX9 cX9_warmth 2 (some .int) 1 := ⟨kw1833, kw1834, kw125, kw1835, by decide +kernel, by decide +kernel, by decide +kernel, by decide +kernel⟩
theorem m_X9_ownerOf : xMem yX9_ownerOf RX9 cX9_ownerOf 2 (some .int) 1 := ⟨kw1837, kw1838, kw125, kw1839, by decide +kernel, by decide +kernel, by decide +kernel, by decide +kernel⟩
theorem m_X9_catOn : xMem yX9_catOn RX9 cX9_catOn 2 (some .int) 1 := ⟨kw1841, kw1842, kw125, kw1843, by decide +kernel, by decide +kernel, by decide +kernel, by decide +kernel⟩
theorem m_X9_gutterEnds : xMem yX9_gutterEnds RX9 cX9_gutterEnds 2 (some .int) 1 := ⟨kw1845, kw1846, kw125, kw1847, by decide +kernel, by decide +kernel, by decide +kernel, by decide +kernel⟩
theorem m_X9_width : xMem yX9_width RX9 cX9_width 2 (some .int) 1 := ⟨kw1849, kw1850, kw125, kw1851, by decide +kernel, by decide +kernel, by decide +kernel, by decide +kernel⟩
theorem m_X9_widestWay : xMem yX9_widestWay RX9 cX9_widestWay 4 (some .int) 2 := ⟨kw1853, kw1854, kw125, kw1855, by decide +kernel, by decide +kernel, by decide +kernel, by decide +kernel⟩
theorem m_X8_warmestFree : xMem yX8_warmestFree RX8 cX8_warmestFree 1 (some .int) 0 := ⟨kw777, kw778, kw116, kw779, by decide +kernel, by decide +kernel, by decide +kernel, by decide +kernel⟩
theorem m_X9_warmestFree : xMem yX9_warmestFree RX9 cX9_warmestFree 1 (some .int) 0 := ⟨kw1861, kw1862, kw125, kw1863, by decide +kernel, by decide +kernel, by decide +kernel, by decide +kernel⟩
theorem m_X9_girth : xMem yX9_girth RX9 cX9_girth 2 (some .int) 1 := ⟨kw1865, kw1866, kw125, kw1867, by decide +kernel, by decide +kernel, by decide +kernel, by decide +kernel⟩
theorem m_X9_power : xMem yX9_power RX9 cX9_power 2 (some .int) 1 := ⟨kw1873, kw1874, kw125, kw1875, by decide +kernel, by decide +kernel, by decide +kernel, by decide +kernel⟩
theorem m_X9_fish : xMem yX9_fish RX9 cX9_fish 2 (some .int) 1 := ⟨kw1877, kw1878, kw125, kw1879, by decide +kernel, by decide +kernel, by decide +kernel, by decide +kernel⟩
theorem m_X9_chimneyOf : xMem yX9_chimneyOf RX9 cX9_chimneyOf 2 (some .int) 1 := ⟨kw1881, kw1882, kw125, kw1883, by decide +kernel, by decide +kernel, by decide +kernel, by decide +kernel⟩
theorem m_X9_ownedChimneys : xMem yX9_ownedChimneys RX9 cX9_ownedChimneys 4 (some .int) 1 := ⟨kw1885, kw1886, kw125, kw1887, by decide +kernel, by decide +kernel, by decide +kernel, by decide +kernel⟩
theorem m_X9_truceNights : xMem yX9_truceNights RX9 cX9_truceNights 3 (some .int) 2 := ⟨kw1889, kw1890, kw125, kw1891, by decide +kernel, by decide +kernel, by decide +kernel, by decide +kernel⟩
theorem m_X9_reachable : xMem yX9_reachable RX9 cX9_reachable 4 (some .int) 1 := ⟨kw1893, kw1894, kw125, kw1895, by decide +kernel, by decide +kernel, by decide +kernel, by decide +kernel⟩
theorem m_X9_stepsTo : xMem yX9_stepsTo RX9 cX9_stepsTo 3 (some .int) 2 := ⟨kw1905, kw1906, kw125, kw1907, by decide +kernel, by decide +kernel, by decide +kernel, by decide +kernel⟩
theorem m_X9_openGutters : xMem yX9_openGutters RX9 cX9_openGutters 4 (some .int) 1 := ⟨kw1909, kw1910, kw125, kw1911, by decide +kernel, by decide +kernel, by decide +kernel, by decide +kernel⟩
theorem m_X9_whyNoStep : xMem yX9_whyNoStep RX9 cX9_whyNoStep 3 (some .int) 2 := ⟨kw1913, kw1914, kw125, kw1915, by decide +kernel, by decide +kernel, by decide +kernel, by decide +kernel⟩
theorem m_X9_whyNoClaim : xMem yX9_whyNoClaim RX9 cX9_whyNoClaim 2 (some .int) 1 := ⟨kw1917, kw1918, kw125, kw1919, by decide +kernel, by decide +kernel, by decide +kernel, by decide +kernel⟩
theorem m_X9_whyNoChase : xMem yX9_whyNoChase RX9 cX9_whyNoChase 3 (some .int) 2 := ⟨kw1921, kw1922, kw125, kw1923, by decide +kernel, by decide +kernel, by decide +kernel, by decide +kernel⟩
theorem m_X9_preyOf : xMem yX9_preyOf RX9 cX9_preyOf 4 (some .int) 1 := ⟨kw1925, kw1926, kw125, kw1927, by decide +kernel, by decide +kernel, by decide +kernel, by decide +kernel⟩
theorem m_X8_isKittenWaiting : xMem yX8_isKittenWaiting RX8 cX8_isKittenWaiting 1 (some .boolean) 0 := ⟨kw782, kw783, kw116, kw784, by decide +kernel, by decide +kernel, by decide +kernel, by decide +kernel⟩
theorem m_X9_isKittenWaiting : xMem yX9_isKittenWaiting RX9 cX9_isKittenWaiting 1 (some .boolean) 0 := ⟨kw1929, kw1930, kw125, kw1931, by decide +kernel, by decide +kernel, by decide +kernel, by decide +kernel⟩
theorem m_X8_votesFor : xMem yX8_votesFor RX8 cX8_votesFor 1 (some .int) 0 := ⟨kw786, kw787, kw116, kw788, by decide +kernel, by decide +kernel, by decide +kernel, by decide +kernel⟩
theorem m_X9_votesFor : xMem yX9_votesFor RX9 cX9_votesFor 1 (some .int) 0 := ⟨kw1933, kw1934, kw125, kw1935, by decide +kernel, by decide +kernel, by decide +kernel, by decide +kernel⟩
theorem m_X8_votesAgainst : xMem yX8_votesAgainst RX8 cX8_votesAgainst 1 (some .int) 0 := ⟨kw791, kw792, kw116, kw793, by decide +kernel, by decide +kernel, by decide +kernel, by decide +kernel⟩
theorem m_X9_votesAgainst : xMem yX9_votesAgainst RX9 cX9_votesAgainst 1 (some .int) 0 := ⟨kw1937, kw1938, kw125, kw1939, by decide +kernel, by decide +kernel, by decide +kernel, by decide +kernel⟩
theorem m_X9_hasVoted : xMem yX9_hasVoted RX9 cX9_hasVoted 2 (some .boolean) 1 := ⟨kw1941, kw1942, kw125, kw1943, by decide +kernel, by decide +kernel, by decide +kernel, by decide +kernel⟩
theorem m_X9_choirOf : xMem yX9_choirOf RX9 cX9_choirOf 2 (some .int) 1 := ⟨kw1945, kw1946, kw125, kw1947, by decide +kernel, by decide +kernel, by decide +kernel, by decide +kernel⟩
theorem m_X8_choirCount : xMem yX8_choirCount RX8 cX8_choirCount 4 (some .int) 0 := ⟨kw795, kw796, kw116, kw797, by decide +kernel, by decide +kernel, by decide +kernel, by decide +kernel⟩
theorem m_X9_choirCount : xMem yX9_choirCount RX9 cX9_choirCount 3 (some .int) 0 := ⟨kw1949, kw1950, kw125, kw1951, by decide +kernel, by decide +kernel, by decide +kernel, by decide +kernel⟩
theorem m_X8_largestChoir : xMem yX8_largestChoir RX8 cX8_largestChoir 1 (some .int) 0 := ⟨kw800, kw801, kw116, kw802, by decide +kernel, by decide +kernel, by decide +kernel, by decide +kernel⟩
theorem m_X9_largestChoir : xMem yX9_largestChoir RX9 cX9_largestChoir 1 (some .int) 0 := ⟨kw1953, kw1954, kw125, kw1955, by decide +kernel, by decide +kernel, by decide +kernel, by decide +kernel⟩
theorem m_X8_nightsToFullMoon : xMem yX8_nightsToFullMoon RX8 cX8_nightsToFullMoon 2 (some .int) 0 := ⟨kw805, kw806, kw116, kw807, by decide +kernel, by decide +kernel, by decide +kernel, by decide +kernel⟩
theorem m_X9_nightsToFullMoon : xMem yX9_nightsToFullMoon RX9 cX9_nightsToFullMoon 2 (some .int) 0 := ⟨kw1957, kw1958, kw125, kw1959, by decide +kernel, by decide +kernel, by decide +kernel, by decide +kernel⟩
theorem m_X9_fishAfter : xMem yX9_fishAfter RX9 cX9_fishAfter 5 (some .int) 2 := ⟨kw1961, kw1962, kw125, kw1963, by decide +kernel, by decide +kernel, by decide +kernel, by decide +kernel⟩
theorem m_X8_richestCat : xMem yX8_richestCat RX8 cX8_richestCat 4 (some .int) 0 := ⟨kw809, kw810, kw116, kw811, by decide +kernel, by decide +kernel, by decide +kernel, by decide +kernel⟩
theorem m_X9_richestCat : xMem yX9_richestCat RX9 cX9_richestCat 3 (some .int) 0 := ⟨kw1965, kw1966, kw125, kw1967, by decide +kernel, by decide +kernel, by decide +kernel, by decide +kernel⟩
theorem m_X8_totalFish : xMem yX8_totalFish RX8 cX8_totalFish 1 (some .int) 0 := ⟨kw813, kw814, kw116, kw815, by decide +kernel, by decide +kernel, by decide +kernel, by decide +kernel⟩
theorem m_X9_totalFish : xMem yX9_totalFish RX9 cX9_totalFish 1 (some .int) 0 := ⟨kw1969, kw1970, kw125, kw1971, by decide +kernel, by decide +kernel, by decide +kernel, by decide +kernel⟩
theorem m_X8_meanFish : xMem yX8_meanFish RX8 cX8_meanFish 1 (some .double) 0 := ⟨kw821, kw822, kw116, kw823, by decide +kernel, by decide +kernel, by decide +kernel, by decide +kernel⟩
theorem m_X9_meanFish : xMem yX9_meanFish RX9 cX9_meanFish 1 (some .double) 0 := ⟨kw1977, kw1978, kw125, kw1979, by decide +kernel, by decide +kernel, by decide +kernel, by decide +kernel⟩
theorem m_X8_ownedShare : xMem yX8_ownedShare RX8 cX8_ownedShare 3 (some .float) 0 := ⟨kw825, kw826, kw116, kw827, by decide +kernel, by decide +kernel, by decide +kernel, by decide +kernel⟩
theorem m_X9_ownedShare : xMem yX9_ownedShare RX9 cX9_ownedShare 3 (some .float) 0 := ⟨kw1981, kw1982, kw125, kw1983, by decide +kernel, by decide +kernel, by decide +kernel, by decide +kernel⟩
theorem m_X8_violations : xMem yX8_violations RX8 cX8_violations 1 (some .int) 0 := ⟨kw829, kw830, kw116, kw831, by decide +kernel, by decide +kernel, by decide +kernel, by decide +kernel⟩
theorem m_X9_violations : xMem yX9_violations RX9 cX9_violations 4 (some .int) 0 := ⟨kw1985, kw1986, kw125, kw1987, by decide +kernel, by decide +kernel, by decide +kernel, by decide +kernel⟩
theorem m_X8_writeRoof : xMem yX8_writeRoof RX8 cX8_writeRoof 1 (some .int) 0 := ⟨kw849, kw850, kw116, kw851, by decide +kernel, by decide +kernel, by decide +kernel, by decide +kernel⟩
theorem m_X9_writeRoof : xMem yX9_writeRoof RX9 cX9_writeRoof 2 (some .int) 0 := ⟨kw1993, kw1994, kw125, kw1995, by decide +kernel, by decide +kernel, by decide +kernel, by decide +kernel⟩
theorem m_X8_reportByte : xMem yX8_reportByte RX8 cX8_reportByte 2 (some .int) 1 := ⟨kw866, kw867, kw116, kw868, by decide +kernel, by decide +kernel, by decide +kernel, by decide +kernel⟩
theorem m_X9_reportByte : xMem yX9_reportByte RX9 cX9_reportByte 2 (some .int) 1 := ⟨kw2005, kw2006, kw125, kw2007, by decide +kernel, by decide +kernel, by decide +kernel, by decide +kernel⟩
set_option maxHeartbeats 4000000 in
set_option maxRecDepth 100000 in
theorem w_Lc0 {p : Program} {l : Launch} {e : Env} {s : State} {m : MethodId} {args : Array Value} {below : List Frame} {meth : Method} {c : Code} {D : va_G} {cy : Nat → ClassId} {s00 : State} {ad : Nat → Nat} {A : Nat → Prop} {Q : State → Prop} {b L : Nat} {sx : Nat → Int32} {rt : Option FieldType} (hX : va_X b L sx s s.heap) (hb : b < s.heap.size ∧ ¬ A b) (hT : l.stackTraces = false ∧ XDW s00) (hG : XG s00) {tE : xEnT} (hEn : XEn s00 tE) (hNc : XNc s00) {c0 m0 : Nat} (hc0 : c0 + 6 ≤ room_1.cells) (hm0 : m0 + 36 ≤ room_1.slots) {K : XS → Option Unit} {m4 : Int32} (E : XE p s m args meth c cL_law 9 RL rt D cy s00) (hk : ∀ (S1 : XS) (H : Heap) (locs : List Loc) (ls : Array Slot), K S1 = some () → XH D cy s00 shLaw ad S1 A s H locs → lv_has ls 9 [(4, .int m4), (3, .ref (ad 154)), (2, .ref (ad 155)), (1, .ref (ad 0)), (0, .ref b)] → W p l e room_1 s m args below meth c H locs (c0 + 6) (m0 + 36) Q (F0 m 2957 ls [])) (S : XS) (H : Heap) (locs : List Loc) (ls : Array Slot) (hf : f_Lc0 L sx K m4 S = some ()) (h : XH D cy s00 shLaw ad S A s H locs) (hl : lv_has ls 9 [(4, .int m4), (3, .ref (ad 154)), (2, .ref (ad 155)), (1, .ref (ad 0)), (0, .ref b)]) : W p l e room_1 s m args below meth c H locs c0 m0 Q (F0 m 300 ls []) := by
  unfold f_Lc0 at hf
  refine lv_aload_n E.1 E.2.1 dL_law_300 rfl (lv_at hl 3 rfl) ?_
  refine lv_aload_n E.1 E.2.1 dL_law_301 rfl (lv_at hl 4 rfl) ?_
  refine lv_iload E.1 E.2.1 dL_law_302 (lv_at hl 0 rfl) ?_
  refine lv_iconst (v := 1) E.1 E.2.1 dL_law_304 (by decide) ?_
  refine lv_iadd E.1 E.2.1 dL_law_305 ?_
  refine x_sld hX hb E h hf dL_law_306 (fun v1 hf => ?_)
  refine lv_aload_n E.1 E.2.1 dL_law_307 rfl (lv_at hl 4 rfl) ?_
  refine lv_iload E.1 E.2.1 dL_law_308 (lv_at hl 0 rfl) ?_
  refine lv_iconst (v := 2) E.1 E.2.1 dL_law_310 (by decide) ?_
  refine lv_iadd E.1 E.2.1 dL_law_311 ?_
  refine x_sld hX hb E h hf dL_law_312 (fun v2 hf => ?_)
  refine lv_aload_n E.1 E.2.1 dL_law_313 rfl (lv_at hl 4 rfl) ?_
  refine lv_iload E.1 E.2.1 dL_law_314 (lv_at hl 0 rfl) ?_
  refine lv_iconst (v := 3) E.1 E.2.1 dL_law_316 (by decide) ?_
  refine lv_iadd E.1 E.2.1 dL_law_317 ?_
  refine x_sld hX hb E h hf dL_law_318 (fun v3 hf => ?_)
  refine lv_aload_n E.1 E.2.1 dL_law_319 rfl (lv_at hl 4 rfl) ?_
  refine lv_iload E.1 E.2.1 dL_law_320 (lv_at hl 0 rfl) ?_
  refine lv_iconst (v := 4) E.1 E.2.1 dL_law_322 (by decide) ?_
  refine lv_iadd E.1 E.2.1 dL_law_323 ?_
  refine x_sld hX hb E h hf dL_law_324 (fun v4 hf => ?_)
  refine lv_aload_n E.1 E.2.1 dL_law_325 rfl (lv_at hl 4 rfl) ?_
  refine lv_iload E.1 E.2.1 dL_law_326 (lv_at hl 0 rfl) ?_
  refine lv_iconst (v := 5) E.1 E.2.1 dL_law_328 (by decide) ?_
  refine lv_iadd E.1 E.2.1 dL_law_329 ?_
  refine x_sld hX hb E h hf dL_law_330 (fun v5 hf => ?_)
  refine x_calloi E h hl 0 0 hf xsub_lawX (fun r0 Sq0 hr => c_X8_append l D cy s00 _ (xs 0 S) v1 v2 v3 v4 v5 r0 Sq0 hr) m_X8_append rfl rfl kw450 rfl rfl (Nat.le_of_ble_eq_true rfl) ⟨Nat.le_of_ble_eq_true rfl, Nat.le_of_ble_eq_true rfl⟩ ⟨by omega, by omega⟩ dL_law_331 (fun v6 S7 H locs hf h => ?_)
  refine lv_aload_n E.1 E.2.1 dL_law_334 rfl (lv_at hl 2 rfl) ?_
  refine lv_aload_n E.1 E.2.1 dL_law_335 rfl (lv_at hl 4 rfl) ?_
  refine lv_iload E.1 E.2.1 dL_law_336 (lv_at hl 0 rfl) ?_
  refine lv_iconst (v := 1) E.1 E.2.1 dL_law_338 (by decide) ?_
  refine lv_iadd E.1 E.2.1 dL_law_339 ?_
  refine x_sld hX hb E h hf dL_law_340 (fun v8 hf => ?_)
  refine lv_aload_n E.1 E.2.1 dL_law_341 rfl (lv_at hl 4 rfl) ?_
  refine lv_iload E.1 E.2.1 dL_law_342 (lv_at hl 0 rfl) ?_
  refine lv_iconst (v := 2) E.1 E.2.1 dL_law_344 (by decide) ?_
  refine lv_iadd E.1 E.2.1 dL_law_345 ?_
  refine x_sld hX hb E h hf dL_law_346 (fun v9 hf => ?_)
  refine lv_aload_n E.1 E.2.1 dL_law_347 rfl (lv_at hl 4 rfl) ?_
  refine lv_iload E.1 E.2.1 dL_law_348 (lv_at hl 0 rfl) ?_
  refine lv_iconst (v := 3) E.1 E.2.1 dL_law_350 (by decide) ?_
  refine lv_iadd E.1 E.2.1 dL_law_351 ?_
  refine x_sld hX hb E h hf dL_law_352 (fun v10 hf => ?_)
  refine lv_aload_n E.1 E.2.1 dL_law_353 rfl (lv_at hl 4 rfl) ?_
  refine lv_iload E.1 E.2.1 dL_law_354 (lv_at hl 0 rfl) ?_
  refine lv_iconst (v := 4) E.1 E.2.1 dL_law_356 (by decide) ?_
  refine lv_iadd E.1 E.2.1 dL_law_357 ?_
  refine x_sld hX hb E h hf dL_law_358 (fun v11 hf => ?_)
  refine lv_aload_n E.1 E.2.1 dL_law_359 rfl (lv_at hl 4 rfl) ?_
  refine lv_iload E.1 E.2.1 dL_law_360 (lv_at hl 0 rfl) ?_
  refine lv_iconst (v := 5) E.1 E.2.1 dL_law_362 (by decide) ?_
  refine lv_iadd E.1 E.2.1 dL_law_363 ?_
  refine x_sld hX hb E h hf dL_law_364 (fun v12 hf => ?_)
  refine x_calloi E h hl 155 155 hf xsub_lawM (fun r0 Sq0 hr => c_X9_append l D cy s00 _ (xs 155 S7) v8 v9 v10 v11 v12 r0 Sq0 hr) m_X9_append rfl rfl kw1685 rfl rfl (Nat.le_of_ble_eq_true rfl) ⟨Nat.le_of_ble_eq_true rfl, Nat.le_of_ble_eq_true rfl⟩ ⟨by omega, by omega⟩ dL_law_365 (fun v13 S14 H locs hf h => ?_)
  refine x_br hf (lv_icmp_eq (tgt := 2957) E.1 E.2.1 dL_law_368 (by decide)) (fun hf => ?_) (fun hf => ?_)
  · exact x_wid ⟨by omega, by omega⟩ (hk _ H locs ls hf h (lv_sub hl [0, 1, 2, 3, 4] rfl))
  · cases hf
set_option maxHeartbeats 4000000 in
set_option maxRecDepth 100000 in
theorem w_Lc1 {p : Program} {l : Launch} {e : Env} {s : State} {m : MethodId} {args : Array Value} {below : List Frame} {meth : Method} {c : Code} {D : va_G} {cy : Nat → ClassId} {s00 : State} {ad : Nat → Nat} {A : Nat → Prop} {Q : State → Prop} {b L : Nat} {sx : Nat → Int32} {rt : Option FieldType} (hX : va_X b L sx s s.heap) (hb : b < s.heap.size ∧ ¬ A b) (hT : l.stackTraces = false ∧ XDW s00) (hG : XG s00) {tE : xEnT} (hEn : XEn s00 tE) (hNc : XNc s00) {c0 m0 : Nat} (hc0 : c0 + 6 ≤ room_1.cells) (hm0 : m0 + 36 ≤ room_1.slots) {K : XS → Option Unit} {m4 : Int32} (E : XE p s m args meth c cL_law 9 RL rt D cy s00) (hk : ∀ (S1 : XS) (H : Heap) (locs : List Loc) (ls : Array Slot), K S1 = some () → XH D cy s00 shLaw ad S1 A s H locs → lv_has ls 9 [(4, .int m4), (3, .ref (ad 154)), (2, .ref (ad 155)), (1, .ref (ad 0)), (0, .ref b)] → W p l e room_1 s m args below meth c H locs (c0 + 6) (m0 + 36) Q (F0 m 2957 ls [])) (S : XS) (H : Heap) (locs : List Loc) (ls : Array Slot) (hf : f_Lc1 L sx K m4 S = some ()) (h : XH D cy s00 shLaw ad S A s H locs) (hl : lv_has ls 9 [(4, .int m4), (3, .ref (ad 154)), (2, .ref (ad 155)), (1, .ref (ad 0)), (0, .ref b)]) : W p l e room_1 s m args below meth c H locs c0 m0 Q (F0 m 373 ls []) := by
  unfold f_Lc1 at hf
  refine lv_aload_n E.1 E.2.1 dL_law_373 rfl (lv_at hl 3 rfl) ?_
  refine lv_aload_n E.1 E.2.1 dL_law_374 rfl (lv_at hl 4 rfl) ?_
  refine lv_iload E.1 E.2.1 dL_law_375 (lv_at hl 0 rfl) ?_
  refine lv_iconst (v := 1) E.1 E.2.1 dL_law_377 (by decide) ?_
  refine lv_iadd E.1 E.2.1 dL_law_378 ?_
  refine x_sld hX hb E h hf dL_law_379 (fun v1 hf => ?_)
  refine lv_aload_n E.1 E.2.1 dL_law_380 rfl (lv_at hl 1 rfl) ?_
  refine x_callW E h hl hf xsub_lawW (fun r0 Sq0 hr => c_L_truncateInput l D cy s00 _ hT hG hNc (xs 0 S) v1 r0 Sq0 hr) mw_L_truncateInput ⟨by decide +kernel, by decide +kernel, (by decide +kernel : (parseMethodDescriptor yL_truncateInput.desc).map (fun d => d.parameters.length) = some 3)⟩ kw869 rfl rfl (Nat.le_of_ble_eq_true rfl) ⟨Nat.le_of_ble_eq_true rfl, Nat.le_of_ble_eq_true rfl⟩ ⟨by omega, by omega⟩ dL_law_381 (fun v2 S3 H locs hf h => ?_)
  refine lv_istore (lv' := [(5, .int v2), (4, .int m4), (3, .ref (ad 154)), (2, .ref (ad 155)), (1, .ref (ad 0)), (0, .ref b)]) E.1 E.2.1 dL_law_384 hl (by decide) rfl (fun ls hl => ?_)
  refine lv_aload_n E.1 E.2.1 dL_law_386 rfl (lv_at hl 3 rfl) ?_
  refine lv_aload_n E.1 E.2.1 dL_law_387 rfl (lv_at hl 5 rfl) ?_
  refine lv_iload E.1 E.2.1 dL_law_388 (lv_at hl 1 rfl) ?_
  refine lv_iconst (v := 1) E.1 E.2.1 dL_law_390 (by decide) ?_
  refine lv_iadd E.1 E.2.1 dL_law_391 ?_
  refine x_sld hX hb E h hf dL_law_392 (fun v4 hf => ?_)
  refine x_calloi E h hl 155 155 hf xsub_lawM (fun r0 Sq0 hr => c_X9_truncateInput l D cy s00 _ (xs 155 S3) v4 r0 Sq0 hr) m_X9_truncateInput rfl rfl kw1693 rfl rfl (Nat.le_of_ble_eq_true rfl) ⟨Nat.le_of_ble_eq_true rfl, Nat.le_of_ble_eq_true rfl⟩ ⟨by omega, by omega⟩ dL_law_393 (fun v5 S6 H locs hf h => ?_)
  refine lv_istore (lv' := [(6, .int v5), (5, .int v2), (4, .int m4), (3, .ref (ad 154)), (2, .ref (ad 155)), (1, .ref (ad 0)), (0, .ref b)]) E.1 E.2.1 dL_law_396 hl (by decide) rfl (fun ls hl => ?_)
  refine lv_aload_n E.1 E.2.1 dL_law_398 rfl (lv_at hl 4 rfl) ?_
  refine x_callop E h hl 155 155 hf xsub_lawM (fun r0 hr => c_X9_thrown l D cy s00 _ (xs 155 S6)  r0 hr) m_X9_thrown rfl rfl kw1681 rfl rfl (Nat.le_of_ble_eq_true rfl) ⟨Nat.le_of_ble_eq_true rfl, Nat.le_of_ble_eq_true rfl⟩ ⟨by omega, by omega⟩ dL_law_399 (fun v7 H locs hf h => ?_)
  refine lv_iload E.1 E.2.1 dL_law_402 (lv_at hl 1 rfl) ?_
  refine x_br hf (lv_icmp_eq (tgt := 409) E.1 E.2.1 dL_law_404 (by decide)) (fun hf => ?_) (fun hf => ?_)
  · refine lv_iload E.1 E.2.1 dL_law_409 (lv_at hl 1 rfl) ?_
    refine x_brn hf (lv_if_ne (tgt := 426) E.1 E.2.1 dL_law_411 (by decide)) (fun hf => ?_) (fun hf => ?_)
    · refine lv_goto (tgt := 2957) E.1 E.2.1 dL_law_426 (by decide) ?_
      exact x_wid ⟨by omega, by omega⟩ (hk _ H locs ls hf h (lv_sub hl [2, 3, 4, 5, 6] rfl))
    · refine lv_aload_n E.1 E.2.1 dL_law_414 rfl (lv_at hl 3 rfl) ?_
      refine lv_iconst (v := 0) E.1 E.2.1 dL_law_415 (by decide) ?_
      refine x_lald1 E h 154 rfl dL_law_416 ?_
      refine lv_iload E.1 E.2.1 dL_law_417 (lv_at hl 0 rfl) ?_
      refine lv_i2l E.1 E.2.1 dL_law_419 rfl ?_
      refine W.lcmp E.1 E.2.1 dL_law_420 ?_
      refine x_bre (lg_cmp0 _ _) hf (lv_if_eq (tgt := 426) E.1 E.2.1 dL_law_421 (by decide)) (fun hf => ?_) (fun hf => ?_)
      · refine lv_goto (tgt := 2957) E.1 E.2.1 dL_law_426 (by decide) ?_
        exact x_wid ⟨by omega, by omega⟩ (hk _ H locs ls hf h (lv_sub hl [2, 3, 4, 5, 6] rfl))
      · cases hf
  · cases hf
set_option maxHeartbeats 4000000 in
set_option maxRecDepth 100000 in
theorem w_Lc2 {p : Program} {l : Launch} {e : Env} {s : State} {m : MethodId} {args : Array Value} {below : List Frame} {meth : Method} {c : Code} {D : va_G} {cy : Nat → ClassId} {s00 : State} {ad : Nat → Nat} {A : Nat → Prop} {Q : State → Prop} {b L : Nat} {sx : Nat → Int32} {rt : Option FieldType} (hX : va_X b L sx s s.heap) (hb : b < s.heap.size ∧ ¬ A b) (hT : l.stackTraces = false ∧ XDW s00) (hG : XG s00) {tE : xEnT} (hEn : XEn s00 tE) (hNc : XNc s00) {c0 m0 : Nat} (hc0 : c0 + 6 ≤ room_1.cells) (hm0 : m0 + 36 ≤ room_1.slots) {K : XS → Option Unit} {m4 : Int32} (E : XE p s m args meth c cL_law 9 RL rt D cy s00) (hk : ∀ (S1 : XS) (H : Heap) (locs : List Loc) (ls : Array Slot), K S1 = some () → XH D cy s00 shLaw ad S1 A s H locs → lv_has ls 9 [(4, .int m4), (3, .ref (ad 154)), (2, .ref (ad 155)), (1, .ref (ad 0)), (0, .ref b)] → W p l e room_1 s m args below meth c H locs (c0 + 6) (m0 + 36) Q (F0 m 2957 ls [])) (S : XS) (H : Heap) (locs : List Loc) (ls : Array Slot) (hf : f_Lc2 L sx K m4 S = some ()) (h : XH D cy s00 shLaw ad S A s H locs) (hl : lv_has ls 9 [(4, .int m4), (3, .ref (ad 154)), (2, .ref (ad 155)), (1, .ref (ad 0)), (0, .ref b)]) : W p l e room_1 s m args below meth c H locs c0 m0 Q (F0 m 429 ls []) := by
  unfold f_Lc2 at hf
  refine lv_aload_n E.1 E.2.1 dL_law_429 rfl (lv_at hl 3 rfl) ?_
  refine x_calloi E h hl 0 0 hf xsub_lawX (fun r0 Sq0 hr => c_X8_runScript l D cy s00 _ hG hEn (xs 0 S)  r0 Sq0 hr) m_X8_runScript rfl rfl kw458 rfl rfl (Nat.le_of_ble_eq_true rfl) ⟨Nat.le_of_ble_eq_true rfl, Nat.le_of_ble_eq_true rfl⟩ ⟨by omega, by omega⟩ dL_law_430 (fun v1 S2 H locs hf h => ?_)
  refine lv_aload_n E.1 E.2.1 dL_law_433 rfl (lv_at hl 2 rfl) ?_
  refine x_calloi E h hl 155 155 hf xsub_lawM (fun r0 Sq0 hr => c_X9_runScript l D cy s00 _ hG (xs 155 S2)  r0 Sq0 hr) m_X9_runScript rfl rfl kw1701 rfl rfl (Nat.le_of_ble_eq_true rfl) ⟨Nat.le_of_ble_eq_true rfl, Nat.le_of_ble_eq_true rfl⟩ ⟨by omega, by omega⟩ dL_law_434 (fun v3 S4 H locs hf h => ?_)
  refine x_br hf (lv_icmp_eq (tgt := 2957) E.1 E.2.1 dL_law_437 (by decide)) (fun hf => ?_) (fun hf => ?_)
  · exact x_wid ⟨by omega, by omega⟩ (hk _ H locs ls hf h (lv_sub hl [0, 1, 2, 3, 4] rfl))
  · cases hf
set_option maxHeartbeats 4000000 in
set_option maxRecDepth 100000 in
theorem w_Lc3 {p : Program} {l : Launch} {e : Env} {s : State} {m : MethodId} {args : Array Value} {below : List Frame} {meth : Method} {c : Code} {D : va_G} {cy : Nat → ClassId} {s00 : State} {ad : Nat → Nat} {A : Nat → Prop} {Q : State → Prop} {b L : Nat} {sx : Nat → Int32} {rt : Option FieldType} (hX : va_X b L sx s s.heap) (hb : b < s.heap.size ∧ ¬ A b) (hT : l.stackTraces = false ∧ XDW s00) (hG : XG s00) {tE : xEnT} (hEn : XEn s00 tE) (hNc : XNc s00) {c0 m0 : Nat} (hc0 : c0 + 6 ≤ room_1.cells) (hm0 : m0 + 36 ≤ room_1.slots) {K : XS → Option Unit} {m4 : Int32} (E : XE p s m args meth c cL_law 9 RL rt D cy s00) (hk : ∀ (S1 : XS) (H : Heap) (locs : List Loc) (ls : Array Slot), K S1 = some () → XH D cy s00 shLaw ad S1 A s H locs → lv_has ls 9 [(4, .int m4), (3, .ref (ad 154)), (2, .ref (ad 155)), (1, .ref (ad 0)), (0, .ref b)] → W p l e room_1 s m args below meth c H locs (c0 + 6) (m0 + 36) Q (F0 m 2957 ls [])) (S : XS) (H : Heap) (locs : List Loc) (ls : Array Slot) (hf : f_Lc3 L sx K m4 S = some ()) (h : XH D cy s00 shLaw ad S A s H locs) (hl : lv_has ls 9 [(4, .int m4), (3, .ref (ad 154)), (2, .ref (ad 155)), (1, .ref (ad 0)), (0, .ref b)]) : W p l e room_1 s m args below meth c H locs c0 m0 Q (F0 m 442 ls []) := by
  unfold f_Lc3 at hf
  refine lv_aload_n E.1 E.2.1 dL_law_442 rfl (lv_at hl 3 rfl) ?_
  refine lv_aload_n E.1 E.2.1 dL_law_443 rfl (lv_at hl 4 rfl) ?_
  refine lv_iload E.1 E.2.1 dL_law_444 (lv_at hl 0 rfl) ?_
  refine lv_iconst (v := 1) E.1 E.2.1 dL_law_446 (by decide) ?_
  refine lv_iadd E.1 E.2.1 dL_law_447 ?_
  refine x_sld hX hb E h hf dL_law_448 (fun v1 hf => ?_)
  refine lv_aload_n E.1 E.2.1 dL_law_449 rfl (lv_at hl 1 rfl) ?_
  refine x_callW E h hl hf xsub_lawW (fun r0 Sq0 hr => c_L_addChimney l D cy s00 _ hT hG hNc (xs 0 S) v1 r0 Sq0 hr) mw_L_addChimney ⟨by decide +kernel, by decide +kernel, (by decide +kernel : (parseMethodDescriptor yL_addChimney.desc).map (fun d => d.parameters.length) = some 3)⟩ kw945 rfl rfl (Nat.le_of_ble_eq_true rfl) ⟨Nat.le_of_ble_eq_true rfl, Nat.le_of_ble_eq_true rfl⟩ ⟨by omega, by omega⟩ dL_law_450 (fun v2 S3 H locs hf h => ?_)
  refine lv_istore (lv' := [(5, .int v2), (4, .int m4), (3, .ref (ad 154)), (2, .ref (ad 155)), (1, .ref (ad 0)), (0, .ref b)]) E.1 E.2.1 dL_law_453 hl (by decide) rfl (fun ls hl => ?_)
  refine lv_aload_n E.1 E.2.1 dL_law_455 rfl (lv_at hl 3 rfl) ?_
  refine lv_aload_n E.1 E.2.1 dL_law_456 rfl (lv_at hl 5 rfl) ?_
  refine lv_iload E.1 E.2.1 dL_law_457 (lv_at hl 1 rfl) ?_
  refine lv_iconst (v := 1) E.1 E.2.1 dL_law_459 (by decide) ?_
  refine lv_iadd E.1 E.2.1 dL_law_460 ?_
  refine x_sld hX hb E h hf dL_law_461 (fun v4 hf => ?_)
  refine x_calloi E h hl 155 155 hf xsub_lawM (fun r0 Sq0 hr => c_X9_addChimney l D cy s00 _ (xs 155 S3) v4 r0 Sq0 hr) m_X9_addChimney rfl rfl kw1713 rfl rfl (Nat.le_of_ble_eq_true rfl) ⟨Nat.le_of_ble_eq_true rfl, Nat.le_of_ble_eq_true rfl⟩ ⟨by omega, by omega⟩ dL_law_462 (fun v5 S6 H locs hf h => ?_)
  refine lv_istore (lv' := [(6, .int v5), (5, .int v2), (4, .int m4), (3, .ref (ad 154)), (2, .ref (ad 155)), (1, .ref (ad 0)), (0, .ref b)]) E.1 E.2.1 dL_law_465 hl (by decide) rfl (fun ls hl => ?_)
  refine lv_aload_n E.1 E.2.1 dL_law_467 rfl (lv_at hl 4 rfl) ?_
  refine x_callop E h hl 155 155 hf xsub_lawM (fun r0 hr => c_X9_thrown l D cy s00 _ (xs 155 S6)  r0 hr) m_X9_thrown rfl rfl kw1681 rfl rfl (Nat.le_of_ble_eq_true rfl) ⟨Nat.le_of_ble_eq_true rfl, Nat.le_of_ble_eq_true rfl⟩ ⟨by omega, by omega⟩ dL_law_468 (fun v7 H locs hf h => ?_)
  refine lv_iload E.1 E.2.1 dL_law_471 (lv_at hl 1 rfl) ?_
  refine x_br hf (lv_icmp_eq (tgt := 478) E.1 E.2.1 dL_law_473 (by decide)) (fun hf => ?_) (fun hf => ?_)
  · refine lv_iload E.1 E.2.1 dL_law_478 (lv_at hl 1 rfl) ?_
    refine x_brn hf (lv_if_ne (tgt := 495) E.1 E.2.1 dL_law_480 (by decide)) (fun hf => ?_) (fun hf => ?_)
    · refine lv_goto (tgt := 2957) E.1 E.2.1 dL_law_495 (by decide) ?_
      exact x_wid ⟨by omega, by omega⟩ (hk _ H locs ls hf h (lv_sub hl [2, 3, 4, 5, 6] rfl))
    · refine lv_aload_n E.1 E.2.1 dL_law_483 rfl (lv_at hl 3 rfl) ?_
      refine lv_iconst (v := 0) E.1 E.2.1 dL_law_484 (by decide) ?_
      refine x_lald1 E h 154 rfl dL_law_485 ?_
      refine lv_iload E.1 E.2.1 dL_law_486 (lv_at hl 0 rfl) ?_
      refine lv_i2l E.1 E.2.1 dL_law_488 rfl ?_
      refine W.lcmp E.1 E.2.1 dL_law_489 ?_
      refine x_bre (lg_cmp0 _ _) hf (lv_if_eq (tgt := 495) E.1 E.2.1 dL_law_490 (by decide)) (fun hf => ?_) (fun hf => ?_)
      · refine lv_goto (tgt := 2957) E.1 E.2.1 dL_law_495 (by decide) ?_
        exact x_wid ⟨by omega, by omega⟩ (hk _ H locs ls hf h (lv_sub hl [2, 3, 4, 5, 6] rfl))
      · cases hf
  · cases hf
set_option maxHeartbeats 4000000 in
set_option maxRecDepth 100000 in
theorem w_Lc4 {p : Program} {l : Launch} {e : Env} {s : State} {m : MethodId} {args : Array Value} {below : List Frame} {meth : Method} {c : Code} {D : va_G} {cy : Nat → ClassId} {s00 : State} {ad : Nat → Nat} {A : Nat → Prop} {Q : State → Prop} {b L : Nat} {sx : Nat → Int32} {rt : Option FieldType} (hX : va_X b L sx s s.heap) (hb : b < s.heap.size ∧ ¬ A b) (hT : l.stackTraces = false ∧ XDW s00) (hG : XG s00) {tE : xEnT} (hEn : XEn s00 tE) (hNc : XNc s00) {c0 m0 : Nat} (hc0 : c0 + 6 ≤ room_1.cells) (hm0 : m0 + 36 ≤ room_1.slots) {K : XS → Option Unit} {m4 : Int32} (E : XE p s m args meth c cL_law 9 RL rt D cy s00) (hk : ∀ (S1 : XS) (H : Heap) (locs : List Loc) (ls : Array Slot), K S1 = some () → XH D cy s00 shLaw ad S1 A s H locs → lv_has ls 9 [(4, .int m4), (3, .ref (ad 154)), (2, .ref (ad 155)), (1, .ref (ad 0)), (0, .ref b)] → W p l e room_1 s m args below meth c H locs (c0 + 6) (m0 + 36) Q (F0 m 2957 ls [])) (S : XS) (H : Heap) (locs : List Loc) (ls : Array Slot) (hf : f_Lc4 L sx K m4 S = some ()) (h : XH D cy s00 shLaw ad S A s H locs) (hl : lv_has ls 9 [(4, .int m4), (3, .ref (ad 154)), (2, .ref (ad 155)), (1, .ref (ad 0)), (0, .ref b)]) : W p l e room_1 s m args below meth c H locs c0 m0 Q (F0 m 498 ls []) := by
  unfold f_Lc4 at hf
  refine lv_aload_n E.1 E.2.1 dL_law_498 rfl (lv_at hl 3 rfl) ?_
  refine lv_aload_n E.1 E.2.1 dL_law_499 rfl (lv_at hl 4 rfl) ?_
  refine lv_iload E.1 E.2.1 dL_law_500 (lv_at hl 0 rfl) ?_
  refine lv_iconst (v := 1) E.1 E.2.1 dL_law_502 (by decide) ?_
  refine lv_iadd E.1 E.2.1 dL_law_503 ?_
  refine x_sld hX hb E h hf dL_law_504 (fun v1 hf => ?_)
  refine lv_aload_n E.1 E.2.1 dL_law_505 rfl (lv_at hl 4 rfl) ?_
  refine lv_iload E.1 E.2.1 dL_law_506 (lv_at hl 0 rfl) ?_
  refine lv_iconst (v := 2) E.1 E.2.1 dL_law_508 (by decide) ?_
  refine lv_iadd E.1 E.2.1 dL_law_509 ?_
  refine x_sld hX hb E h hf dL_law_510 (fun v2 hf => ?_)
  refine lv_aload_n E.1 E.2.1 dL_law_511 rfl (lv_at hl 4 rfl) ?_
  refine lv_iload E.1 E.2.1 dL_law_512 (lv_at hl 0 rfl) ?_
  refine lv_iconst (v := 3) E.1 E.2.1 dL_law_514 (by decide) ?_
  refine lv_iadd E.1 E.2.1 dL_law_515 ?_
  refine x_sld hX hb E h hf dL_law_516 (fun v3 hf => ?_)
  refine lv_aload_n E.1 E.2.1 dL_law_517 rfl (lv_at hl 1 rfl) ?_
  refine x_callW E h hl hf xsub_lawW (fun r0 Sq0 hr => c_L_addGutter l D cy s00 _ hT hG hNc (xs 0 S) v1 v2 v3 r0 Sq0 hr) mw_L_addGutter ⟨by decide +kernel, by decide +kernel, (by decide +kernel : (parseMethodDescriptor yL_addGutter.desc).map (fun d => d.parameters.length) = some 5)⟩ kw978 rfl rfl (Nat.le_of_ble_eq_true rfl) ⟨Nat.le_of_ble_eq_true rfl, Nat.le_of_ble_eq_true rfl⟩ ⟨by omega, by omega⟩ dL_law_518 (fun v4 S5 H locs hf h => ?_)
  refine lv_istore (lv' := [(5, .int v4), (4, .int m4), (3, .ref (ad 154)), (2, .ref (ad 155)), (1, .ref (ad 0)), (0, .ref b)]) E.1 E.2.1 dL_law_521 hl (by decide) rfl (fun ls hl => ?_)
  refine lv_aload_n E.1 E.2.1 dL_law_523 rfl (lv_at hl 3 rfl) ?_
  refine lv_aload_n E.1 E.2.1 dL_law_524 rfl (lv_at hl 5 rfl) ?_
  refine lv_iload E.1 E.2.1 dL_law_525 (lv_at hl 1 rfl) ?_
  refine lv_iconst (v := 1) E.1 E.2.1 dL_law_527 (by decide) ?_
  refine lv_iadd E.1 E.2.1 dL_law_528 ?_
  refine x_sld hX hb E h hf dL_law_529 (fun v6 hf => ?_)
  refine lv_aload_n E.1 E.2.1 dL_law_530 rfl (lv_at hl 5 rfl) ?_
  refine lv_iload E.1 E.2.1 dL_law_531 (lv_at hl 1 rfl) ?_
  refine lv_iconst (v := 2) E.1 E.2.1 dL_law_533 (by decide) ?_
  refine lv_iadd E.1 E.2.1 dL_law_534 ?_
  refine x_sld hX hb E h hf dL_law_535 (fun v7 hf => ?_)
  refine lv_aload_n E.1 E.2.1 dL_law_536 rfl (lv_at hl 5 rfl) ?_
  refine lv_iload E.1 E.2.1 dL_law_537 (lv_at hl 1 rfl) ?_
  refine lv_iconst (v := 3) E.1 E.2.1 dL_law_539 (by decide) ?_
  refine lv_iadd E.1 E.2.1 dL_law_540 ?_
  refine x_sld hX hb E h hf dL_law_541 (fun v8 hf => ?_)
  refine x_calloi E h hl 155 155 hf xsub_lawM (fun r0 Sq0 hr => c_X9_addGutter l D cy s00 _ (xs 155 S5) v6 v7 v8 r0 Sq0 hr) m_X9_addGutter rfl rfl kw1721 rfl rfl (Nat.le_of_ble_eq_true rfl) ⟨Nat.le_of_ble_eq_true rfl, Nat.le_of_ble_eq_true rfl⟩ ⟨by omega, by omega⟩ dL_law_542 (fun v9 S10 H locs hf h => ?_)
  refine lv_istore (lv' := [(6, .int v9), (5, .int v4), (4, .int m4), (3, .ref (ad 154)), (2, .ref (ad 155)), (1, .ref (ad 0)), (0, .ref b)]) E.1 E.2.1 dL_law_545 hl (by decide) rfl (fun ls hl => ?_)
  refine lv_aload_n E.1 E.2.1 dL_law_547 rfl (lv_at hl 4 rfl) ?_
  refine x_callop E h hl 155 155 hf xsub_lawM (fun r0 hr => c_X9_thrown l D cy s00 _ (xs 155 S10)  r0 hr) m_X9_thrown rfl rfl kw1681 rfl rfl (Nat.le_of_ble_eq_true rfl) ⟨Nat.le_of_ble_eq_true rfl, Nat.le_of_ble_eq_true rfl⟩ ⟨by omega, by omega⟩ dL_law_548 (fun v11 H locs hf h => ?_)
  refine lv_iload E.1 E.2.1 dL_law_551 (lv_at hl 1 rfl) ?_
  refine x_br hf (lv_icmp_eq (tgt := 558) E.1 E.2.1 dL_law_553 (by decide)) (fun hf => ?_) (fun hf => ?_)
  · refine lv_iload E.1 E.2.1 dL_law_558 (lv_at hl 1 rfl) ?_
    refine x_brn hf (lv_if_ne (tgt := 575) E.1 E.2.1 dL_law_560 (by decide)) (fun hf => ?_) (fun hf => ?_)
    · refine lv_goto (tgt := 2957) E.1 E.2.1 dL_law_575 (by decide) ?_
      exact x_wid ⟨by omega, by omega⟩ (hk _ H locs ls hf h (lv_sub hl [2, 3, 4, 5, 6] rfl))
    · refine lv_aload_n E.1 E.2.1 dL_law_563 rfl (lv_at hl 3 rfl) ?_
      refine lv_iconst (v := 0) E.1 E.2.1 dL_law_564 (by decide) ?_
      refine x_lald1 E h 154 rfl dL_law_565 ?_
      refine lv_iload E.1 E.2.1 dL_law_566 (lv_at hl 0 rfl) ?_
      refine lv_i2l E.1 E.2.1 dL_law_568 rfl ?_
      refine W.lcmp E.1 E.2.1 dL_law_569 ?_
      refine x_bre (lg_cmp0 _ _) hf (lv_if_eq (tgt := 575) E.1 E.2.1 dL_law_570 (by decide)) (fun hf => ?_) (fun hf => ?_)
      · refine lv_goto (tgt := 2957) E.1 E.2.1 dL_law_575 (by decide) ?_
        exact x_wid ⟨by omega, by omega⟩ (hk _ H locs ls hf h (lv_sub hl [2, 3, 4, 5, 6] rfl))
      · cases hf
  · cases hf
set_option maxHeartbeats 4000000 in
set_option maxRecDepth 100000 in
theorem w_Lc5 {p : Program} {l : Launch} {e : Env} {s : State} {m : MethodId} {args : Array Value} {below : List Frame} {meth : Method} {c : Code} {D : va_G} {cy : Nat → ClassId} {s00 : State} {ad : Nat → Nat} {A : Nat → Prop} {Q : State → Prop} {b L : Nat} {sx : Nat → Int32} {rt : Option FieldType} (hX : va_X b L sx s s.heap) (hb : b < s.heap.size ∧ ¬ A b) (hT : l.stackTraces = false ∧ XDW s00) (hG : XG s00) {tE : xEnT} (hEn : XEn s00 tE) (hNc : XNc s00) {c0 m0 : Nat} (hc0 : c0 + 6 ≤ room_1.cells) (hm0 : m0 + 36 ≤ room_1.slots) {K : XS → Option Unit} {m4 : Int32} (E : XE p s m args meth c cL_law 9 RL rt D cy s00) (hk : ∀ (S1 : XS) (H : Heap) (locs : List Loc) (ls : Array Slot), K S1 = some () → XH D cy s00 shLaw ad S1 A s H locs → lv_has ls 9 [(4, .int m4), (3, .ref (ad 154)), (2, .ref (ad 155)), (1, .ref (ad 0)), (0, .ref b)] → W p l e room_1 s m args below meth c H locs (c0 + 6) (m0 + 36) Q (F0 m 2957 ls [])) (S : XS) (H : Heap) (locs : List Loc) (ls : Array Slot) (hf : f_Lc5 L sx K m4 S = some ()) (h : XH D cy s00 shLaw ad S A s H locs) (hl : lv_has ls 9 [(4, .int m4), (3, .ref (ad 154)), (2, .ref (ad 155)), (1, .ref (ad 0)), (0, .ref b)]) : W p l e room_1 s m args below meth c H locs c0 m0 Q (F0 m 578 ls []) := by
  unfold f_Lc5 at hf
  refine lv_aload_n E.1 E.2.1 dL_law_578 rfl (lv_at hl 3 rfl) ?_
  refine lv_aload_n E.1 E.2.1 dL_law_579 rfl (lv_at hl 4 rfl) ?_
  refine lv_iload E.1 E.2.1 dL_law_580 (lv_at hl 0 rfl) ?_
  refine lv_iconst (v := 1) E.1 E.2.1 dL_law_582 (by decide) ?_
  refine lv_iadd E.1 E.2.1 dL_law_583 ?_
  refine x_sld hX hb E h hf dL_law_584 (fun v1 hf => ?_)
  refine lv_aload_n E.1 E.2.1 dL_law_585 rfl (lv_at hl 4 rfl) ?_
  refine lv_iload E.1 E.2.1 dL_law_586 (lv_at hl 0 rfl) ?_
  refine lv_iconst (v := 2) E.1 E.2.1 dL_law_588 (by decide) ?_
  refine lv_iadd E.1 E.2.1 dL_law_589 ?_
  refine x_sld hX hb E h hf dL_law_590 (fun v2 hf => ?_)
  refine lv_aload_n E.1 E.2.1 dL_law_591 rfl (lv_at hl 4 rfl) ?_
  refine lv_iload E.1 E.2.1 dL_law_592 (lv_at hl 0 rfl) ?_
  refine lv_iconst (v := 3) E.1 E.2.1 dL_law_594 (by decide) ?_
  refine lv_iadd E.1 E.2.1 dL_law_595 ?_
  refine x_sld hX hb E h hf dL_law_596 (fun v3 hf => ?_)
  refine lv_aload_n E.1 E.2.1 dL_law_597 rfl (lv_at hl 1 rfl) ?_
  refine x_callW E h hl hf xsub_lawW (fun r0 Sq0 hr => c_L_addCat l D cy s00 _ hT hG hNc (xs 0 S) v1 v2 v3 r0 Sq0 hr) mw_L_addCat ⟨by decide +kernel, by decide +kernel, (by decide +kernel : (parseMethodDescriptor yL_addCat.desc).map (fun d => d.parameters.length) = some 5)⟩ kw1012 rfl rfl (Nat.le_of_ble_eq_true rfl) ⟨Nat.le_of_ble_eq_true rfl, Nat.le_of_ble_eq_true rfl⟩ ⟨by omega, by omega⟩ dL_law_598 (fun v4 S5 H locs hf h => ?_)
  refine lv_istore (lv' := [(5, .int v4), (4, .int m4), (3, .ref (ad 154)), (2, .ref (ad 155)), (1, .ref (ad 0)), (0, .ref b)]) E.1 E.2.1 dL_law_601 hl (by decide) rfl (fun ls hl => ?_)
  refine lv_aload_n E.1 E.2.1 dL_law_603 rfl (lv_at hl 3 rfl) ?_
  refine lv_aload_n E.1 E.2.1 dL_law_604 rfl (lv_at hl 5 rfl) ?_
  refine lv_iload E.1 E.2.1 dL_law_605 (lv_at hl 1 rfl) ?_
  refine lv_iconst (v := 1) E.1 E.2.1 dL_law_607 (by decide) ?_
  refine lv_iadd E.1 E.2.1 dL_law_608 ?_
  refine x_sld hX hb E h hf dL_law_609 (fun v6 hf => ?_)
  refine lv_aload_n E.1 E.2.1 dL_law_610 rfl (lv_at hl 5 rfl) ?_
  refine lv_iload E.1 E.2.1 dL_law_611 (lv_at hl 1 rfl) ?_
  refine lv_iconst (v := 2) E.1 E.2.1 dL_law_613 (by decide) ?_
  refine lv_iadd E.1 E.2.1 dL_law_614 ?_
  refine x_sld hX hb E h hf dL_law_615 (fun v7 hf => ?_)
  refine lv_aload_n E.1 E.2.1 dL_law_616 rfl (lv_at hl 5 rfl) ?_
  refine lv_iload E.1 E.2.1 dL_law_617 (lv_at hl 1 rfl) ?_
  refine lv_iconst (v := 3) E.1 E.2.1 dL_law_619 (by decide) ?_
  refine lv_iadd E.1 E.2.1 dL_law_620 ?_
  refine x_sld hX hb E h hf dL_law_621 (fun v8 hf => ?_)
  refine x_calloi E h hl 155 155 hf xsub_lawM (fun r0 Sq0 hr => c_X9_addCat l D cy s00 _ (xs 155 S5) v6 v7 v8 r0 Sq0 hr) m_X9_addCat rfl rfl kw1733 rfl rfl (Nat.le_of_ble_eq_true rfl) ⟨Nat.le_of_ble_eq_true rfl, Nat.le_of_ble_eq_true rfl⟩ ⟨by omega, by omega⟩ dL_law_622 (fun v9 S10 H locs hf h => ?_)
  refine lv_istore (lv' := [(6, .int v9), (5, .int v4), (4, .int m4), (3, .ref (ad 154)), (2, .ref (ad 155)), (1, .ref (ad 0)), (0, .ref b)]) E.1 E.2.1 dL_law_625 hl (by decide) rfl (fun ls hl => ?_)
  refine lv_aload_n E.1 E.2.1 dL_law_627 rfl (lv_at hl 4 rfl) ?_
  refine x_callop E h hl 155 155 hf xsub_lawM (fun r0 hr => c_X9_thrown l D cy s00 _ (xs 155 S10)  r0 hr) m_X9_thrown rfl rfl kw1681 rfl rfl (Nat.le_of_ble_eq_true rfl) ⟨Nat.le_of_ble_eq_true rfl, Nat.le_of_ble_eq_true rfl⟩ ⟨by omega, by omega⟩ dL_law_628 (fun v11 H locs hf h => ?_)
  refine lv_iload E.1 E.2.1 dL_law_631 (lv_at hl 1 rfl) ?_
  refine x_br hf (lv_icmp_eq (tgt := 638) E.1 E.2.1 dL_law_633 (by decide)) (fun hf => ?_) (fun hf => ?_)
  · refine lv_iload E.1 E.2.1 dL_law_638 (lv_at hl 1 rfl) ?_
    refine x_brn hf (lv_if_ne (tgt := 655) E.1 E.2.1 dL_law_640 (by decide)) (fun hf => ?_) (fun hf => ?_)
    · refine lv_goto (tgt := 2957) E.1 E.2.1 dL_law_655 (by decide) ?_
      exact x_wid ⟨by omega, by omega⟩ (hk _ H locs ls hf h (lv_sub hl [2, 3, 4, 5, 6] rfl))
    · refine lv_aload_n E.1 E.2.1 dL_law_643 rfl (lv_at hl 3 rfl) ?_
      refine lv_iconst (v := 0) E.1 E.2.1 dL_law_644 (by decide) ?_
      refine x_lald1 E h 154 rfl dL_law_645 ?_
      refine lv_iload E.1 E.2.1 dL_law_646 (lv_at hl 0 rfl) ?_
      refine lv_i2l E.1 E.2.1 dL_law_648 rfl ?_
      refine W.lcmp E.1 E.2.1 dL_law_649 ?_
      refine x_bre (lg_cmp0 _ _) hf (lv_if_eq (tgt := 655) E.1 E.2.1 dL_law_650 (by decide)) (fun hf => ?_) (fun hf => ?_)
      · refine lv_goto (tgt := 2957) E.1 E.2.1 dL_law_655 (by decide) ?_
        exact x_wid ⟨by omega, by omega⟩ (hk _ H locs ls hf h (lv_sub hl [2, 3, 4, 5, 6] rfl))
      · cases hf
  · cases hf
set_option maxHeartbeats 4000000 in
set_option maxRecDepth 100000 in
theorem w_Lc6 {p : Program} {l : Launch} {e : Env} {s : State} {m : MethodId} {args : Array Value} {below : List Frame} {meth : Method} {c : Code} {D : va_G} {cy : Nat → ClassId} {s00 : State} {ad : Nat → Nat} {A : Nat → Prop} {Q : State → Prop} {b L : Nat} {sx : Nat → Int32} {rt : Option FieldType} (hX : va_X b L sx s s.heap) (hb : b < s.heap.size ∧ ¬ A b) (hT : l.stackTraces = false ∧ XDW s00) (hG : XG s00) {tE : xEnT} (hEn : XEn s00 tE) (hNc : XNc s00) {c0 m0 : Nat} (hc0 : c0 + 6 ≤ room_1.cells) (hm0 : m0 + 36 ≤ room_1.slots) {K : XS → Option Unit} {m4 : Int32} (E : XE p s m args meth c cL_law 9 RL rt D cy s00) (hk : ∀ (S1 : XS) (H : Heap) (locs : List Loc) (ls : Array Slot), K S1 = some () → XH D cy s00 shLaw ad S1 A s H locs → lv_has ls 9 [(4, .int m4), (3, .ref (ad 154)), (2, .ref (ad 155)), (1, .ref (ad 0)), (0, .ref b)] → W p l e room_1 s m args below meth c H locs (c0 + 6) (m0 + 36) Q (F0 m 2957 ls [])) (S : XS) (H : Heap) (locs : List Loc) (ls : Array Slot) (hf : f_Lc6 L sx K m4 S = some ()) (h : XH D cy s00 shLaw ad S A s H locs) (hl : lv_has ls 9 [(4, .int m4), (3, .ref (ad 154)), (2, .ref (ad 155)), (1, .ref (ad 0)), (0, .ref b)]) : W p l e room_1 s m args below meth c H locs c0 m0 Q (F0 m 658 ls []) := by
  unfold f_Lc6 at hf
  refine lv_aload_n E.1 E.2.1 dL_law_658 rfl (lv_at hl 3 rfl) ?_
  refine lv_aload_n E.1 E.2.1 dL_law_659 rfl (lv_at hl 4 rfl) ?_
  refine lv_iload E.1 E.2.1 dL_law_660 (lv_at hl 0 rfl) ?_
  refine lv_iconst (v := 1) E.1 E.2.1 dL_law_662 (by decide) ?_
  refine lv_iadd E.1 E.2.1 dL_law_663 ?_
  refine x_sld hX hb E h hf dL_law_664 (fun v1 hf => ?_)
  refine lv_aload_n E.1 E.2.1 dL_law_665 rfl (lv_at hl 4 rfl) ?_
  refine lv_iload E.1 E.2.1 dL_law_666 (lv_at hl 0 rfl) ?_
  refine lv_iconst (v := 2) E.1 E.2.1 dL_law_668 (by decide) ?_
  refine lv_iadd E.1 E.2.1 dL_law_669 ?_
  refine x_sld hX hb E h hf dL_law_670 (fun v2 hf => ?_)
  refine lv_aload_n E.1 E.2.1 dL_law_671 rfl (lv_at hl 1 rfl) ?_
  refine x_callW E h hl hf xsub_lawW (fun r0 Sq0 hr => c_L_step l D cy s00 _ hT hG hNc (xs 0 S) v1 v2 r0 Sq0 hr) mw_L_step ⟨by decide +kernel, by decide +kernel, (by decide +kernel : (parseMethodDescriptor yL_step.desc).map (fun d => d.parameters.length) = some 4)⟩ kw1020 rfl rfl (Nat.le_of_ble_eq_true rfl) ⟨Nat.le_of_ble_eq_true rfl, Nat.le_of_ble_eq_true rfl⟩ ⟨by omega, by omega⟩ dL_law_672 (fun v3 S4 H locs hf h => ?_)
  refine lv_istore (lv' := [(5, .int v3), (4, .int m4), (3, .ref (ad 154)), (2, .ref (ad 155)), (1, .ref (ad 0)), (0, .ref b)]) E.1 E.2.1 dL_law_675 hl (by decide) rfl (fun ls hl => ?_)
  refine lv_aload_n E.1 E.2.1 dL_law_677 rfl (lv_at hl 3 rfl) ?_
  refine lv_aload_n E.1 E.2.1 dL_law_678 rfl (lv_at hl 5 rfl) ?_
  refine lv_iload E.1 E.2.1 dL_law_679 (lv_at hl 1 rfl) ?_
  refine lv_iconst (v := 1) E.1 E.2.1 dL_law_681 (by decide) ?_
  refine lv_iadd E.1 E.2.1 dL_law_682 ?_
  refine x_sld hX hb E h hf dL_law_683 (fun v5 hf => ?_)
  refine lv_aload_n E.1 E.2.1 dL_law_684 rfl (lv_at hl 5 rfl) ?_
  refine lv_iload E.1 E.2.1 dL_law_685 (lv_at hl 1 rfl) ?_
  refine lv_iconst (v := 2) E.1 E.2.1 dL_law_687 (by decide) ?_
  refine lv_iadd E.1 E.2.1 dL_law_688 ?_
  refine x_sld hX hb E h hf dL_law_689 (fun v6 hf => ?_)
  refine x_calloi E h hl 155 155 hf xsub_lawM (fun r0 Sq0 hr => c_X9_step l D cy s00 _ (xs 155 S4) v5 v6 r0 Sq0 hr) m_X9_step rfl rfl kw1740 rfl rfl (Nat.le_of_ble_eq_true rfl) ⟨Nat.le_of_ble_eq_true rfl, Nat.le_of_ble_eq_true rfl⟩ ⟨by omega, by omega⟩ dL_law_690 (fun v7 S8 H locs hf h => ?_)
  refine lv_istore (lv' := [(6, .int v7), (5, .int v3), (4, .int m4), (3, .ref (ad 154)), (2, .ref (ad 155)), (1, .ref (ad 0)), (0, .ref b)]) E.1 E.2.1 dL_law_693 hl (by decide) rfl (fun ls hl => ?_)
  refine lv_aload_n E.1 E.2.1 dL_law_695 rfl (lv_at hl 4 rfl) ?_
  refine x_callop E h hl 155 155 hf xsub_lawM (fun r0 hr => c_X9_thrown l D cy s00 _ (xs 155 S8)  r0 hr) m_X9_thrown rfl rfl kw1681 rfl rfl (Nat.le_of_ble_eq_true rfl) ⟨Nat.le_of_ble_eq_true rfl, Nat.le_of_ble_eq_true rfl⟩ ⟨by omega, by omega⟩ dL_law_696 (fun v9 H locs hf h => ?_)
  refine lv_iload E.1 E.2.1 dL_law_699 (lv_at hl 1 rfl) ?_
  refine x_br hf (lv_icmp_eq (tgt := 706) E.1 E.2.1 dL_law_701 (by decide)) (fun hf => ?_) (fun hf => ?_)
  · refine lv_iload E.1 E.2.1 dL_law_706 (lv_at hl 1 rfl) ?_
    refine x_brn hf (lv_if_ne (tgt := 723) E.1 E.2.1 dL_law_708 (by decide)) (fun hf => ?_) (fun hf => ?_)
    · refine lv_goto (tgt := 2957) E.1 E.2.1 dL_law_723 (by decide) ?_
      exact x_wid ⟨by omega, by omega⟩ (hk _ H locs ls hf h (lv_sub hl [2, 3, 4, 5, 6] rfl))
    · refine lv_aload_n E.1 E.2.1 dL_law_711 rfl (lv_at hl 3 rfl) ?_
      refine lv_iconst (v := 0) E.1 E.2.1 dL_law_712 (by decide) ?_
      refine x_lald1 E h 154 rfl dL_law_713 ?_
      refine lv_iload E.1 E.2.1 dL_law_714 (lv_at hl 0 rfl) ?_
      refine lv_i2l E.1 E.2.1 dL_law_716 rfl ?_
      refine W.lcmp E.1 E.2.1 dL_law_717 ?_
      refine x_bre (lg_cmp0 _ _) hf (lv_if_eq (tgt := 723) E.1 E.2.1 dL_law_718 (by decide)) (fun hf => ?_) (fun hf => ?_)
      · refine lv_goto (tgt := 2957) E.1 E.2.1 dL_law_723 (by decide) ?_
        exact x_wid ⟨by omega, by omega⟩ (hk _ H locs ls hf h (lv_sub hl [2, 3, 4, 5, 6] rfl))
      · cases hf
  · cases hf
set_option maxHeartbeats 4000000 in
set_option maxRecDepth 100000 in
theorem w_Lc7 {p : Program} {l : Launch} {e : Env} {s : State} {m : MethodId} {args : Array Value} {below : List Frame} {meth : Method} {c : Code} {D : va_G} {cy : Nat → ClassId} {s00 : State} {ad : Nat → Nat} {A : Nat → Prop} {Q : State → Prop} {b L : Nat} {sx : Nat → Int32} {rt : Option FieldType} (hX : va_X b L sx s s.heap) (hb : b < s.heap.size ∧ ¬ A b) (hT : l.stackTraces = false ∧ XDW s00) (hG : XG s00) {tE : xEnT} (hEn : XEn s00 tE) (hNc : XNc s00) {c0 m0 : Nat} (hc0 : c0 + 6 ≤ room_1.cells) (hm0 : m0 + 36 ≤ room_1.slots) {K : XS → Option Unit} {m4 : Int32} (E : XE p s m args meth c cL_law 9 RL rt D cy s00) (hk : ∀ (S1 : XS) (H : Heap) (locs : List Loc) (ls : Array Slot), K S1 = some () → XH D cy s00 shLaw ad S1 A s H locs → lv_has ls 9 [(4, .int m4), (3, .ref (ad 154)), (2, .ref (ad 155)), (1, .ref (ad 0)), (0, .ref b)] → W p l e room_1 s m args below meth c H locs (c0 + 6) (m0 + 36) Q (F0 m 2957 ls [])) (S : XS) (H : Heap) (locs : List Loc) (ls : Array Slot) (hf : f_Lc7 L sx K m4 S = some ()) (h : XH D cy s00 shLaw ad S A s H locs) (hl : lv_has ls 9 [(4, .int m4), (3, .ref (ad 154)), (2, .ref (ad 155)), (1, .ref (ad 0)), (0, .ref b)]) : W p l e room_1 s m args below meth c H locs c0 m0 Q (F0 m 726 ls []) := by
  unfold f_Lc7 at hf
  refine lv_aload_n E.1 E.2.1 dL_law_726 rfl (lv_at hl 3 rfl) ?_
  refine lv_aload_n E.1 E.2.1 dL_law_727 rfl (lv_at hl 4 rfl) ?_
  refine lv_iload E.1 E.2.1 dL_law_728 (lv_at hl 0 rfl) ?_
  refine lv_iconst (v := 1) E.1 E.2.1 dL_law_730 (by decide) ?_
  refine lv_iadd E.1 E.2.1 dL_law_731 ?_
  refine x_sld hX hb E h hf dL_law_732 (fun v1 hf => ?_)
  refine lv_aload_n E.1 E.2.1 dL_law_733 rfl (lv_at hl 1 rfl) ?_
  refine x_callW E h hl hf xsub_lawW (fun r0 Sq0 hr => c_L_claim l D cy s00 _ hT hG hNc (xs 0 S) v1 r0 Sq0 hr) mw_L_claim ⟨by decide +kernel, by decide +kernel, (by decide +kernel : (parseMethodDescriptor yL_claim.desc).map (fun d => d.parameters.length) = some 3)⟩ kw1041 rfl rfl (Nat.le_of_ble_eq_true rfl) ⟨Nat.le_of_ble_eq_true rfl, Nat.le_of_ble_eq_true rfl⟩ ⟨by omega, by omega⟩ dL_law_734 (fun v2 S3 H locs hf h => ?_)
  refine lv_istore (lv' := [(5, .int v2), (4, .int m4), (3, .ref (ad 154)), (2, .ref (ad 155)), (1, .ref (ad 0)), (0, .ref b)]) E.1 E.2.1 dL_law_737 hl (by decide) rfl (fun ls hl => ?_)
  refine lv_aload_n E.1 E.2.1 dL_law_739 rfl (lv_at hl 3 rfl) ?_
  refine lv_aload_n E.1 E.2.1 dL_law_740 rfl (lv_at hl 5 rfl) ?_
  refine lv_iload E.1 E.2.1 dL_law_741 (lv_at hl 1 rfl) ?_
  refine lv_iconst (v := 1) E.1 E.2.1 dL_law_743 (by decide) ?_
  refine lv_iadd E.1 E.2.1 dL_law_744 ?_
  refine x_sld hX hb E h hf dL_law_745 (fun v4 hf => ?_)
  refine x_calloi E h hl 155 155 hf xsub_lawM (fun r0 Sq0 hr => c_X9_claim l D cy s00 _ (xs 155 S3) v4 r0 Sq0 hr) m_X9_claim rfl rfl kw1752 rfl rfl (Nat.le_of_ble_eq_true rfl) ⟨Nat.le_of_ble_eq_true rfl, Nat.le_of_ble_eq_true rfl⟩ ⟨by omega, by omega⟩ dL_law_746 (fun v5 S6 H locs hf h => ?_)
  refine lv_istore (lv' := [(6, .int v5), (5, .int v2), (4, .int m4), (3, .ref (ad 154)), (2, .ref (ad 155)), (1, .ref (ad 0)), (0, .ref b)]) E.1 E.2.1 dL_law_749 hl (by decide) rfl (fun ls hl => ?_)
  refine lv_aload_n E.1 E.2.1 dL_law_751 rfl (lv_at hl 4 rfl) ?_
  refine x_callop E h hl 155 155 hf xsub_lawM (fun r0 hr => c_X9_thrown l D cy s00 _ (xs 155 S6)  r0 hr) m_X9_thrown rfl rfl kw1681 rfl rfl (Nat.le_of_ble_eq_true rfl) ⟨Nat.le_of_ble_eq_true rfl, Nat.le_of_ble_eq_true rfl⟩ ⟨by omega, by omega⟩ dL_law_752 (fun v7 H locs hf h => ?_)
  refine lv_iload E.1 E.2.1 dL_law_755 (lv_at hl 1 rfl) ?_
  refine x_br hf (lv_icmp_eq (tgt := 762) E.1 E.2.1 dL_law_757 (by decide)) (fun hf => ?_) (fun hf => ?_)
  · refine lv_iload E.1 E.2.1 dL_law_762 (lv_at hl 1 rfl) ?_
    refine x_brn hf (lv_if_ne (tgt := 779) E.1 E.2.1 dL_law_764 (by decide)) (fun hf => ?_) (fun hf => ?_)
    · refine lv_goto (tgt := 2957) E.1 E.2.1 dL_law_779 (by decide) ?_
      exact x_wid ⟨by omega, by omega⟩ (hk _ H locs ls hf h (lv_sub hl [2, 3, 4, 5, 6] rfl))
    · refine lv_aload_n E.1 E.2.1 dL_law_767 rfl (lv_at hl 3 rfl) ?_
      refine lv_iconst (v := 0) E.1 E.2.1 dL_law_768 (by decide) ?_
      refine x_lald1 E h 154 rfl dL_law_769 ?_
      refine lv_iload E.1 E.2.1 dL_law_770 (lv_at hl 0 rfl) ?_
      refine lv_i2l E.1 E.2.1 dL_law_772 rfl ?_
      refine W.lcmp E.1 E.2.1 dL_law_773 ?_
      refine x_bre (lg_cmp0 _ _) hf (lv_if_eq (tgt := 779) E.1 E.2.1 dL_law_774 (by decide)) (fun hf => ?_) (fun hf => ?_)
      · refine lv_goto (tgt := 2957) E.1 E.2.1 dL_law_779 (by decide) ?_
        exact x_wid ⟨by omega, by omega⟩ (hk _ H locs ls hf h (lv_sub hl [2, 3, 4, 5, 6] rfl))
      · cases hf
  · cases hf
set_option maxHeartbeats 4000000 in
set_option maxRecDepth 100000 in
theorem w_Lc8 {p : Program} {l : Launch} {e : Env} {s : State} {m : MethodId} {args : Array Value} {below : List Frame} {meth : Method} {c : Code} {D : va_G} {cy : Nat → ClassId} {s00 : State} {ad : Nat → Nat} {A : Nat → Prop} {Q : State → Prop} {b L : Nat} {sx : Nat → Int32} {rt : Option FieldType} (hX : va_X b L sx s s.heap) (hb : b < s.heap.size ∧ ¬ A b) (hT : l.stackTraces = false ∧ XDW s00) (hG : XG s00) {tE : xEnT} (hEn : XEn s00 tE) (hNc : XNc s00) {c0 m0 : Nat} (hc0 : c0 + 6 ≤ room_1.cells) (hm0 : m0 + 36 ≤ room_1.slots) {K : XS → Option Unit} {m4 : Int32} (E : XE p s m args meth c cL_law 9 RL rt D cy s00) (hk : ∀ (S1 : XS) (H : Heap) (locs : List Loc) (ls : Array Slot), K S1 = some () → XH D cy s00 shLaw ad S1 A s H locs → lv_has ls 9 [(4, .int m4), (3, .ref (ad 154)), (2, .ref (ad 155)), (1, .ref (ad 0)), (0, .ref b)] → W p l e room_1 s m args below meth c H locs (c0 + 6) (m0 + 36) Q (F0 m 2957 ls [])) (S : XS) (H : Heap) (locs : List Loc) (ls : Array Slot) (hf : f_Lc8 L sx K m4 S = some ()) (h : XH D cy s00 shLaw ad S A s H locs) (hl : lv_has ls 9 [(4, .int m4), (3, .ref (ad 154)), (2, .ref (ad 155)), (1, .ref (ad 0)), (0, .ref b)]) : W p l e room_1 s m args below meth c H locs c0 m0 Q (F0 m 782 ls []) := by
  unfold f_Lc8 at hf
  refine lv_aload_n E.1 E.2.1 dL_law_782 rfl (lv_at hl 3 rfl) ?_
  refine lv_aload_n E.1 E.2.1 dL_law_783 rfl (lv_at hl 4 rfl) ?_
  refine lv_iload E.1 E.2.1 dL_law_784 (lv_at hl 0 rfl) ?_
  refine lv_iconst (v := 1) E.1 E.2.1 dL_law_786 (by decide) ?_
  refine lv_iadd E.1 E.2.1 dL_law_787 ?_
  refine x_sld hX hb E h hf dL_law_788 (fun v1 hf => ?_)
  refine lv_aload_n E.1 E.2.1 dL_law_789 rfl (lv_at hl 1 rfl) ?_
  refine x_callW E h hl hf xsub_lawW (fun r0 Sq0 hr => c_L_abandon l D cy s00 _ hT hG hNc (xs 0 S) v1 r0 Sq0 hr) mw_L_abandon ⟨by decide +kernel, by decide +kernel, (by decide +kernel : (parseMethodDescriptor yL_abandon.desc).map (fun d => d.parameters.length) = some 3)⟩ kw1049 rfl rfl (Nat.le_of_ble_eq_true rfl) ⟨Nat.le_of_ble_eq_true rfl, Nat.le_of_ble_eq_true rfl⟩ ⟨by omega, by omega⟩ dL_law_790 (fun v2 S3 H locs hf h => ?_)
  refine lv_istore (lv' := [(5, .int v2), (4, .int m4), (3, .ref (ad 154)), (2, .ref (ad 155)), (1, .ref (ad 0)), (0, .ref b)]) E.1 E.2.1 dL_law_793 hl (by decide) rfl (fun ls hl => ?_)
  refine lv_aload_n E.1 E.2.1 dL_law_795 rfl (lv_at hl 3 rfl) ?_
  refine lv_aload_n E.1 E.2.1 dL_law_796 rfl (lv_at hl 5 rfl) ?_
  refine lv_iload E.1 E.2.1 dL_law_797 (lv_at hl 1 rfl) ?_
  refine lv_iconst (v := 1) E.1 E.2.1 dL_law_799 (by decide) ?_
  refine lv_iadd E.1 E.2.1 dL_law_800 ?_
  refine x_sld hX hb E h hf dL_law_801 (fun v4 hf => ?_)
  refine x_calloi E h hl 155 155 hf xsub_lawM (fun r0 Sq0 hr => c_X9_abandon l D cy s00 _ (xs 155 S3) v4 r0 Sq0 hr) m_X9_abandon rfl rfl kw1756 rfl rfl (Nat.le_of_ble_eq_true rfl) ⟨Nat.le_of_ble_eq_true rfl, Nat.le_of_ble_eq_true rfl⟩ ⟨by omega, by omega⟩ dL_law_802 (fun v5 S6 H locs hf h => ?_)
  refine lv_istore (lv' := [(6, .int v5), (5, .int v2), (4, .int m4), (3, .ref (ad 154)), (2, .ref (ad 155)), (1, .ref (ad 0)), (0, .ref b)]) E.1 E.2.1 dL_law_805 hl (by decide) rfl (fun ls hl => ?_)
  refine lv_aload_n E.1 E.2.1 dL_law_807 rfl (lv_at hl 4 rfl) ?_
  refine x_callop E h hl 155 155 hf xsub_lawM (fun r0 hr => c_X9_thrown l D cy s00 _ (xs 155 S6)  r0 hr) m_X9_thrown rfl rfl kw1681 rfl rfl (Nat.le_of_ble_eq_true rfl) ⟨Nat.le_of_ble_eq_true rfl, Nat.le_of_ble_eq_true rfl⟩ ⟨by omega, by omega⟩ dL_law_808 (fun v7 H locs hf h => ?_)
  refine lv_iload E.1 E.2.1 dL_law_811 (lv_at hl 1 rfl) ?_
  refine x_br hf (lv_icmp_eq (tgt := 818) E.1 E.2.1 dL_law_813 (by decide)) (fun hf => ?_) (fun hf => ?_)
  · refine lv_iload E.1 E.2.1 dL_law_818 (lv_at hl 1 rfl) ?_
    refine x_brn hf (lv_if_ne (tgt := 835) E.1 E.2.1 dL_law_820 (by decide)) (fun hf => ?_) (fun hf => ?_)
    · refine lv_goto (tgt := 2957) E.1 E.2.1 dL_law_835 (by decide) ?_
      exact x_wid ⟨by omega, by omega⟩ (hk _ H locs ls hf h (lv_sub hl [2, 3, 4, 5, 6] rfl))
    · refine lv_aload_n E.1 E.2.1 dL_law_823 rfl (lv_at hl 3 rfl) ?_
      refine lv_iconst (v := 0) E.1 E.2.1 dL_law_824 (by decide) ?_
      refine x_lald1 E h 154 rfl dL_law_825 ?_
      refine lv_iload E.1 E.2.1 dL_law_826 (lv_at hl 0 rfl) ?_
      refine lv_i2l E.1 E.2.1 dL_law_828 rfl ?_
      refine W.lcmp E.1 E.2.1 dL_law_829 ?_
      refine x_bre (lg_cmp0 _ _) hf (lv_if_eq (tgt := 835) E.1 E.2.1 dL_law_830 (by decide)) (fun hf => ?_) (fun hf => ?_)
      · refine lv_goto (tgt := 2957) E.1 E.2.1 dL_law_835 (by decide) ?_
        exact x_wid ⟨by omega, by omega⟩ (hk _ H locs ls hf h (lv_sub hl [2, 3, 4, 5, 6] rfl))
      · cases hf
  · cases hf
set_option maxHeartbeats 4000000 in
set_option maxRecDepth 100000 in
theorem w_Lc9 {p : Program} {l : Launch} {e : Env} {s : State} {m : MethodId} {args : Array Value} {below : List Frame} {meth : Method} {c : Code} {D : va_G} {cy : Nat → ClassId} {s00 : State} {ad : Nat → Nat} {A : Nat → Prop} {Q : State → Prop} {b L : Nat} {sx : Nat → Int32} {rt : Option FieldType} (hX : va_X b L sx s s.heap) (hb : b < s.heap.size ∧ ¬ A b) (hT : l.stackTraces = false ∧ XDW s00) (hG : XG s00) {tE : xEnT} (hEn : XEn s00 tE) (hNc : XNc s00) {c0 m0 : Nat} (hc0 : c0 + 6 ≤ room_1.cells) (hm0 : m0 + 36 ≤ room_1.slots) {K : XS → Option Unit} {m4 : Int32} (E : XE p s m args meth c cL_law 9 RL rt D cy s00) (hk : ∀ (S1 : XS) (H : Heap) (locs : List Loc) (ls : Array Slot), K S1 = some () → XH D cy s00 shLaw ad S1 A s H locs → lv_has ls 9 [(4, .int m4), (3, .ref (ad 154)), (2, .ref (ad 155)), (1, .ref (ad 0)), (0, .ref b)] → W p l e room_1 s m args below meth c H locs (c0 + 6) (m0 + 36) Q (F0 m 2957 ls [])) (S : XS) (H : Heap) (locs : List Loc) (ls : Array Slot) (hf : f_Lc9 L sx K m4 S = some ()) (h : XH D cy s00 shLaw ad S A s H locs) (hl : lv_has ls 9 [(4, .int m4), (3, .ref (ad 154)), (2, .ref (ad 155)), (1, .ref (ad 0)), (0, .ref b)]) : W p l e room_1 s m args below meth c H locs c0 m0 Q (F0 m 838 ls []) := by
  unfold f_Lc9 at hf
  refine lv_aload_n E.1 E.2.1 dL_law_838 rfl (lv_at hl 3 rfl) ?_
  refine lv_aload_n E.1 E.2.1 dL_law_839 rfl (lv_at hl 4 rfl) ?_
  refine lv_iload E.1 E.2.1 dL_law_840 (lv_at hl 0 rfl) ?_
  refine lv_iconst (v := 1) E.1 E.2.1 dL_law_842 (by decide) ?_
  refine lv_iadd E.1 E.2.1 dL_law_843 ?_
  refine x_sld hX hb E h hf dL_law_844 (fun v1 hf => ?_)
  refine lv_aload_n E.1 E.2.1 dL_law_845 rfl (lv_at hl 4 rfl) ?_
  refine lv_iload E.1 E.2.1 dL_law_846 (lv_at hl 0 rfl) ?_
  refine lv_iconst (v := 2) E.1 E.2.1 dL_law_848 (by decide) ?_
  refine lv_iadd E.1 E.2.1 dL_law_849 ?_
  refine x_sld hX hb E h hf dL_law_850 (fun v2 hf => ?_)
  refine lv_aload_n E.1 E.2.1 dL_law_851 rfl (lv_at hl 1 rfl) ?_
  refine x_callW E h hl hf xsub_lawW (fun r0 Sq0 hr => c_L_chase l D cy s00 _ hT hG hNc (xs 0 S) v1 v2 r0 Sq0 hr) mw_L_chase ⟨by decide +kernel, by decide +kernel, (by decide +kernel : (parseMethodDescriptor yL_chase.desc).map (fun d => d.parameters.length) = some 4)⟩ kw1057 rfl rfl (Nat.le_of_ble_eq_true rfl) ⟨Nat.le_of_ble_eq_true rfl, Nat.le_of_ble_eq_true rfl⟩ ⟨by omega, by omega⟩ dL_law_852 (fun v3 S4 H locs hf h => ?_)
  refine lv_istore (lv' := [(5, .int v3), (4, .int m4), (3, .ref (ad 154)), (2, .ref (ad 155)), (1, .ref (ad 0)), (0, .ref b)]) E.1 E.2.1 dL_law_855 hl (by decide) rfl (fun ls hl => ?_)
  refine lv_aload_n E.1 E.2.1 dL_law_857 rfl (lv_at hl 3 rfl) ?_
  refine lv_aload_n E.1 E.2.1 dL_law_858 rfl (lv_at hl 5 rfl) ?_
  refine lv_iload E.1 E.2.1 dL_law_859 (lv_at hl 1 rfl) ?_
  refine lv_iconst (v := 1) E.1 E.2.1 dL_law_861 (by decide) ?_
  refine lv_iadd E.1 E.2.1 dL_law_862 ?_
  refine x_sld hX hb E h hf dL_law_863 (fun v5 hf => ?_)
  refine lv_aload_n E.1 E.2.1 dL_law_864 rfl (lv_at hl 5 rfl) ?_
  refine lv_iload E.1 E.2.1 dL_law_865 (lv_at hl 1 rfl) ?_
  refine lv_iconst (v := 2) E.1 E.2.1 dL_law_867 (by decide) ?_
  refine lv_iadd E.1 E.2.1 dL_law_868 ?_
  refine x_sld hX hb E h hf dL_law_869 (fun v6 hf => ?_)
  refine x_calloi E h hl 155 155 hf xsub_lawM (fun r0 Sq0 hr => c_X9_chase l D cy s00 _ (xs 155 S4) v5 v6 r0 Sq0 hr) m_X9_chase rfl rfl kw1760 rfl rfl (Nat.le_of_ble_eq_true rfl) ⟨Nat.le_of_ble_eq_true rfl, Nat.le_of_ble_eq_true rfl⟩ ⟨by omega, by omega⟩ dL_law_870 (fun v7 S8 H locs hf h => ?_)
  refine lv_istore (lv' := [(6, .int v7), (5, .int v3), (4, .int m4), (3, .ref (ad 154)), (2, .ref (ad 155)), (1, .ref (ad 0)), (0, .ref b)]) E.1 E.2.1 dL_law_873 hl (by decide) rfl (fun ls hl => ?_)
  refine lv_aload_n E.1 E.2.1 dL_law_875 rfl (lv_at hl 4 rfl) ?_
  refine x_callop E h hl 155 155 hf xsub_lawM (fun r0 hr => c_X9_thrown l D cy s00 _ (xs 155 S8)  r0 hr) m_X9_thrown rfl rfl kw1681 rfl rfl (Nat.le_of_ble_eq_true rfl) ⟨Nat.le_of_ble_eq_true rfl, Nat.le_of_ble_eq_true rfl⟩ ⟨by omega, by omega⟩ dL_law_876 (fun v9 H locs hf h => ?_)
  refine lv_iload E.1 E.2.1 dL_law_879 (lv_at hl 1 rfl) ?_
  refine x_br hf (lv_icmp_eq (tgt := 886) E.1 E.2.1 dL_law_881 (by decide)) (fun hf => ?_) (fun hf => ?_)
  · refine lv_iload E.1 E.2.1 dL_law_886 (lv_at hl 1 rfl) ?_
    refine x_brn hf (lv_if_ne (tgt := 910) E.1 E.2.1 dL_law_888 (by decide)) (fun hf => ?_) (fun hf => ?_)
    · refine lv_goto (tgt := 2957) E.1 E.2.1 dL_law_910 (by decide) ?_
      exact x_wid ⟨by omega, by omega⟩ (hk _ H locs ls hf h (lv_sub hl [2, 3, 4, 5, 6] rfl))
    · refine lv_aload_n E.1 E.2.1 dL_law_891 rfl (lv_at hl 3 rfl) ?_
      refine lv_iconst (v := 0) E.1 E.2.1 dL_law_892 (by decide) ?_
      refine x_lald1 E h 154 rfl dL_law_893 ?_
      refine lv_iload E.1 E.2.1 dL_law_894 (lv_at hl 0 rfl) ?_
      refine x_br hf (lv_if_eq (tgt := 903) E.1 E.2.1 dL_law_896 (by decide)) (fun hf => ?_) (fun hf => ?_)
      · refine lv_lconst (v := (0 : Int32).toInt64) E.1 E.2.1 dL_law_903 (by decide) ?_
        refine W.lcmp E.1 E.2.1 dL_law_904 ?_
        refine x_bre (lg_cmp0 _ _) hf (lv_if_eq (tgt := 910) E.1 E.2.1 dL_law_905 (by decide)) (fun hf => ?_) (fun hf => ?_)
        · refine lv_goto (tgt := 2957) E.1 E.2.1 dL_law_910 (by decide) ?_
          exact x_wid ⟨by omega, by omega⟩ (hk _ H locs ls hf h (lv_sub hl [2, 3, 4, 5, 6] rfl))
        · cases hf
      · refine lv_lconst (v := (1 : Int32).toInt64) E.1 E.2.1 dL_law_899 (by decide) ?_
        refine lv_goto (tgt := 904) E.1 E.2.1 dL_law_900 (by decide) ?_
        refine W.lcmp E.1 E.2.1 dL_law_904 ?_
        refine x_bre (lg_cmp0 _ _) hf (lv_if_eq (tgt := 910) E.1 E.2.1 dL_law_905 (by decide)) (fun hf => ?_) (fun hf => ?_)
        · refine lv_goto (tgt := 2957) E.1 E.2.1 dL_law_910 (by decide) ?_
          exact x_wid ⟨by omega, by omega⟩ (hk _ H locs ls hf h (lv_sub hl [2, 3, 4, 5, 6] rfl))
        · cases hf
  · cases hf
set_option maxHeartbeats 4000000 in
set_option maxRecDepth 100000 in
theorem w_Lc10 {p : Program} {l : Launch} {e : Env} {s : State} {m : MethodId} {args : Array Value} {below : List Frame} {meth : Method} {c : Code} {D : va_G} {cy : Nat → ClassId} {s00 : State} {ad : Nat → Nat} {A : Nat → Prop} {Q : State → Prop} {b L : Nat} {sx : Nat → Int32} {rt : Option FieldType} (hX : va_X b L sx s s.heap) (hb : b < s.heap.size ∧ ¬ A b) (hT : l.stackTraces = false ∧ XDW s00) (hG : XG s00) {tE : xEnT} (hEn : XEn s00 tE) (hNc : XNc s00) {c0 m0 : Nat} (hc0 : c0 + 6 ≤ room_1.cells) (hm0 : m0 + 36 ≤ room_1.slots) {K : XS → Option Unit} {m4 : Int32} (E : XE p s m args meth c cL_law 9 RL rt D cy s00) (hk : ∀ (S1 : XS) (H : Heap) (locs : List Loc) (ls : Array Slot), K S1 = some () → XH D cy s00 shLaw ad S1 A s H locs → lv_has ls 9 [(4, .int m4), (3, .ref (ad 154)), (2, .ref (ad 155)), (1, .ref (ad 0)), (0, .ref b)] → W p l e room_1 s m args below meth c H locs (c0 + 6) (m0 + 36) Q (F0 m 2957 ls [])) (S : XS) (H : Heap) (locs : List Loc) (ls : Array Slot) (hf : f_Lc10 L sx K m4 S = some ()) (h : XH D cy s00 shLaw ad S A s H locs) (hl : lv_has ls 9 [(4, .int m4), (3, .ref (ad 154)), (2, .ref (ad 155)), (1, .ref (ad 0)), (0, .ref b)]) : W p l e room_1 s m args below meth c H locs c0 m0 Q (F0 m 913 ls []) := by
  unfold f_Lc10 at hf
  refine lv_aload_n E.1 E.2.1 dL_law_913 rfl (lv_at hl 3 rfl) ?_
  refine lv_aload_n E.1 E.2.1 dL_law_914 rfl (lv_at hl 4 rfl) ?_
  refine lv_iload E.1 E.2.1 dL_law_915 (lv_at hl 0 rfl) ?_
  refine lv_iconst (v := 1) E.1 E.2.1 dL_law_917 (by decide) ?_
  refine lv_iadd E.1 E.2.1 dL_law_918 ?_
  refine x_sld hX hb E h hf dL_law_919 (fun v1 hf => ?_)
  refine lv_aload_n E.1 E.2.1 dL_law_920 rfl (lv_at hl 4 rfl) ?_
  refine lv_iload E.1 E.2.1 dL_law_921 (lv_at hl 0 rfl) ?_
  refine lv_iconst (v := 2) E.1 E.2.1 dL_law_923 (by decide) ?_
  refine lv_iadd E.1 E.2.1 dL_law_924 ?_
  refine x_sld hX hb E h hf dL_law_925 (fun v2 hf => ?_)
  refine lv_aload_n E.1 E.2.1 dL_law_926 rfl (lv_at hl 4 rfl) ?_
  refine lv_iload E.1 E.2.1 dL_law_927 (lv_at hl 0 rfl) ?_
  refine lv_iconst (v := 3) E.1 E.2.1 dL_law_929 (by decide) ?_
  refine lv_iadd E.1 E.2.1 dL_law_930 ?_
  refine x_sld hX hb E h hf dL_law_931 (fun v3 hf => ?_)
  refine lv_aload_n E.1 E.2.1 dL_law_932 rfl (lv_at hl 4 rfl) ?_
  refine lv_iload E.1 E.2.1 dL_law_933 (lv_at hl 0 rfl) ?_
  refine lv_iconst (v := 4) E.1 E.2.1 dL_law_935 (by decide) ?_
  refine lv_iadd E.1 E.2.1 dL_law_936 ?_
  refine x_sld hX hb E h hf dL_law_937 (fun v4 hf => ?_)
  refine lv_aload_n E.1 E.2.1 dL_law_938 rfl (lv_at hl 1 rfl) ?_
  refine x_callW E h hl hf xsub_lawW (fun r0 Sq0 hr => c_L_buyTruce l D cy s00 _ hT hG hNc (xs 0 S) v1 v2 v3 v4 r0 Sq0 hr) mw_L_buyTruce ⟨by decide +kernel, by decide +kernel, (by decide +kernel : (parseMethodDescriptor yL_buyTruce.desc).map (fun d => d.parameters.length) = some 6)⟩ kw1066 rfl rfl (Nat.le_of_ble_eq_true rfl) ⟨Nat.le_of_ble_eq_true rfl, Nat.le_of_ble_eq_true rfl⟩ ⟨by omega, by omega⟩ dL_law_939 (fun v5 S6 H locs hf h => ?_)
  refine lv_istore (lv' := [(5, .int v5), (4, .int m4), (3, .ref (ad 154)), (2, .ref (ad 155)), (1, .ref (ad 0)), (0, .ref b)]) E.1 E.2.1 dL_law_942 hl (by decide) rfl (fun ls hl => ?_)
  refine lv_aload_n E.1 E.2.1 dL_law_944 rfl (lv_at hl 3 rfl) ?_
  refine lv_aload_n E.1 E.2.1 dL_law_945 rfl (lv_at hl 5 rfl) ?_
  refine lv_iload E.1 E.2.1 dL_law_946 (lv_at hl 1 rfl) ?_
  refine lv_iconst (v := 1) E.1 E.2.1 dL_law_948 (by decide) ?_
  refine lv_iadd E.1 E.2.1 dL_law_949 ?_
  refine x_sld hX hb E h hf dL_law_950 (fun v7 hf => ?_)
  refine lv_aload_n E.1 E.2.1 dL_law_951 rfl (lv_at hl 5 rfl) ?_
  refine lv_iload E.1 E.2.1 dL_law_952 (lv_at hl 1 rfl) ?_
  refine lv_iconst (v := 2) E.1 E.2.1 dL_law_954 (by decide) ?_
  refine lv_iadd E.1 E.2.1 dL_law_955 ?_
  refine x_sld hX hb E h hf dL_law_956 (fun v8 hf => ?_)
  refine lv_aload_n E.1 E.2.1 dL_law_957 rfl (lv_at hl 5 rfl) ?_
  refine lv_iload E.1 E.2.1 dL_law_958 (lv_at hl 1 rfl) ?_
  refine lv_iconst (v := 3) E.1 E.2.1 dL_law_960 (by decide) ?_
  refine lv_iadd E.1 E.2.1 dL_law_961 ?_
  refine x_sld hX hb E h hf dL_law_962 (fun v9 hf => ?_)
  refine lv_aload_n E.1 E.2.1 dL_law_963 rfl (lv_at hl 5 rfl) ?_
  refine lv_iload E.1 E.2.1 dL_law_964 (lv_at hl 1 rfl) ?_
  refine lv_iconst (v := 4) E.1 E.2.1 dL_law_966 (by decide) ?_
  refine lv_iadd E.1 E.2.1 dL_law_967 ?_
  refine x_sld hX hb E h hf dL_law_968 (fun v10 hf => ?_)
  refine x_calloi E h hl 155 155 hf xsub_lawM (fun r0 Sq0 hr => c_X9_buyTruce l D cy s00 _ (xs 155 S6) v7 v8 v9 v10 r0 Sq0 hr) m_X9_buyTruce rfl rfl kw1768 rfl rfl (Nat.le_of_ble_eq_true rfl) ⟨Nat.le_of_ble_eq_true rfl, Nat.le_of_ble_eq_true rfl⟩ ⟨by omega, by omega⟩ dL_law_969 (fun v11 S12 H locs hf h => ?_)
  refine lv_istore (lv' := [(6, .int v11), (5, .int v5), (4, .int m4), (3, .ref (ad 154)), (2, .ref (ad 155)), (1, .ref (ad 0)), (0, .ref b)]) E.1 E.2.1 dL_law_972 hl (by decide) rfl (fun ls hl => ?_)
  refine lv_aload_n E.1 E.2.1 dL_law_974 rfl (lv_at hl 4 rfl) ?_
  refine x_callop E h hl 155 155 hf xsub_lawM (fun r0 hr => c_X9_thrown l D cy s00 _ (xs 155 S12)  r0 hr) m_X9_thrown rfl rfl kw1681 rfl rfl (Nat.le_of_ble_eq_true rfl) ⟨Nat.le_of_ble_eq_true rfl, Nat.le_of_ble_eq_true rfl⟩ ⟨by omega, by omega⟩ dL_law_975 (fun v13 H locs hf h => ?_)
  refine lv_iload E.1 E.2.1 dL_law_978 (lv_at hl 1 rfl) ?_
  refine x_br hf (lv_icmp_eq (tgt := 985) E.1 E.2.1 dL_law_980 (by decide)) (fun hf => ?_) (fun hf => ?_)
  · refine lv_iload E.1 E.2.1 dL_law_985 (lv_at hl 1 rfl) ?_
    refine x_brn hf (lv_if_ne (tgt := 1002) E.1 E.2.1 dL_law_987 (by decide)) (fun hf => ?_) (fun hf => ?_)
    · refine lv_goto (tgt := 2957) E.1 E.2.1 dL_law_1002 (by decide) ?_
      exact x_wid ⟨by omega, by omega⟩ (hk _ H locs ls hf h (lv_sub hl [2, 3, 4, 5, 6] rfl))
    · refine lv_aload_n E.1 E.2.1 dL_law_990 rfl (lv_at hl 3 rfl) ?_
      refine lv_iconst (v := 0) E.1 E.2.1 dL_law_991 (by decide) ?_
      refine x_lald1 E h 154 rfl dL_law_992 ?_
      refine lv_iload E.1 E.2.1 dL_law_993 (lv_at hl 0 rfl) ?_
      refine lv_i2l E.1 E.2.1 dL_law_995 rfl ?_
      refine W.lcmp E.1 E.2.1 dL_law_996 ?_
      refine x_bre (lg_cmp0 _ _) hf (lv_if_eq (tgt := 1002) E.1 E.2.1 dL_law_997 (by decide)) (fun hf => ?_) (fun hf => ?_)
      · refine lv_goto (tgt := 2957) E.1 E.2.1 dL_law_1002 (by decide) ?_
        exact x_wid ⟨by omega, by omega⟩ (hk _ H locs ls hf h (lv_sub hl [2, 3, 4, 5, 6] rfl))
      · cases hf
  · cases hf
set_option maxHeartbeats 4000000 in
set_option maxRecDepth 100000 in
theorem w_Lc11 {p : Program} {l : Launch} {e : Env} {s : State} {m : MethodId} {args : Array Value} {below : List Frame} {meth : Method} {c : Code} {D : va_G} {cy : Nat → ClassId} {s00 : State} {ad : Nat → Nat} {A : Nat → Prop} {Q : State → Prop} {b L : Nat} {sx : Nat → Int32} {rt : Option FieldType} (hX : va_X b L sx s s.heap) (hb : b < s.heap.size ∧ ¬ A b) (hT : l.stackTraces = false ∧ XDW s00) (hG : XG s00) {tE : xEnT} (hEn : XEn s00 tE) (hNc : XNc s00) {c0 m0 : Nat} (hc0 : c0 + 6 ≤ room_1.cells) (hm0 : m0 + 36 ≤ room_1.slots) {K : XS → Option Unit} {m4 : Int32} (E : XE p s m args meth c cL_law 9 RL rt D cy s00) (hk : ∀ (S1 : XS) (H : Heap) (locs : List Loc) (ls : Array Slot), K S1 = some () → XH D cy s00 shLaw ad S1 A s H locs → lv_has ls 9 [(4, .int m4), (3, .ref (ad 154)), (2, .ref (ad 155)), (1, .ref (ad 0)), (0, .ref b)] → W p l e room_1 s m args below meth c H locs (c0 + 6) (m0 + 36) Q (F0 m 2957 ls [])) (S : XS) (H : Heap) (locs : List Loc) (ls : Array Slot) (hf : f_Lc11 L sx K m4 S = some ()) (h : XH D cy s00 shLaw ad S A s H locs) (hl : lv_has ls 9 [(4, .int m4), (3, .ref (ad 154)), (2, .ref (ad 155)), (1, .ref (ad 0)), (0, .ref b)]) : W p l e room_1 s m args below meth c H locs c0 m0 Q (F0 m 1005 ls []) := by
  unfold f_Lc11 at hf
  refine lv_aload_n E.1 E.2.1 dL_law_1005 rfl (lv_at hl 3 rfl) ?_
  refine lv_aload_n E.1 E.2.1 dL_law_1006 rfl (lv_at hl 4 rfl) ?_
  refine lv_iload E.1 E.2.1 dL_law_1007 (lv_at hl 0 rfl) ?_
  refine lv_iconst (v := 1) E.1 E.2.1 dL_law_1009 (by decide) ?_
  refine lv_iadd E.1 E.2.1 dL_law_1010 ?_
  refine x_sld hX hb E h hf dL_law_1011 (fun v1 hf => ?_)
  refine lv_aload_n E.1 E.2.1 dL_law_1012 rfl (lv_at hl 4 rfl) ?_
  refine lv_iload E.1 E.2.1 dL_law_1013 (lv_at hl 0 rfl) ?_
  refine lv_iconst (v := 2) E.1 E.2.1 dL_law_1015 (by decide) ?_
  refine lv_iadd E.1 E.2.1 dL_law_1016 ?_
  refine x_sld hX hb E h hf dL_law_1017 (fun v2 hf => ?_)
  refine lv_aload_n E.1 E.2.1 dL_law_1018 rfl (lv_at hl 1 rfl) ?_
  refine x_callW E h hl hf xsub_lawW (fun r0 Sq0 hr => c_L_nominate l D cy s00 _ hT hG hNc (xs 0 S) v1 v2 r0 Sq0 hr) mw_L_nominate ⟨by decide +kernel, by decide +kernel, (by decide +kernel : (parseMethodDescriptor yL_nominate.desc).map (fun d => d.parameters.length) = some 4)⟩ kw1074 rfl rfl (Nat.le_of_ble_eq_true rfl) ⟨Nat.le_of_ble_eq_true rfl, Nat.le_of_ble_eq_true rfl⟩ ⟨by omega, by omega⟩ dL_law_1019 (fun v3 S4 H locs hf h => ?_)
  refine lv_istore (lv' := [(5, .int v3), (4, .int m4), (3, .ref (ad 154)), (2, .ref (ad 155)), (1, .ref (ad 0)), (0, .ref b)]) E.1 E.2.1 dL_law_1022 hl (by decide) rfl (fun ls hl => ?_)
  refine lv_aload_n E.1 E.2.1 dL_law_1024 rfl (lv_at hl 3 rfl) ?_
  refine lv_aload_n E.1 E.2.1 dL_law_1025 rfl (lv_at hl 5 rfl) ?_
  refine lv_iload E.1 E.2.1 dL_law_1026 (lv_at hl 1 rfl) ?_
  refine lv_iconst (v := 1) E.1 E.2.1 dL_law_1028 (by decide) ?_
  refine lv_iadd E.1 E.2.1 dL_law_1029 ?_
  refine x_sld hX hb E h hf dL_law_1030 (fun v5 hf => ?_)
  refine lv_aload_n E.1 E.2.1 dL_law_1031 rfl (lv_at hl 5 rfl) ?_
  refine lv_iload E.1 E.2.1 dL_law_1032 (lv_at hl 1 rfl) ?_
  refine lv_iconst (v := 2) E.1 E.2.1 dL_law_1034 (by decide) ?_
  refine lv_iadd E.1 E.2.1 dL_law_1035 ?_
  refine x_sld hX hb E h hf dL_law_1036 (fun v6 hf => ?_)
  refine x_calloi E h hl 155 155 hf xsub_lawM (fun r0 Sq0 hr => c_X9_nominate l D cy s00 _ (xs 155 S4) v5 v6 r0 Sq0 hr) m_X9_nominate rfl rfl kw1772 rfl rfl (Nat.le_of_ble_eq_true rfl) ⟨Nat.le_of_ble_eq_true rfl, Nat.le_of_ble_eq_true rfl⟩ ⟨by omega, by omega⟩ dL_law_1037 (fun v7 S8 H locs hf h => ?_)
  refine lv_istore (lv' := [(6, .int v7), (5, .int v3), (4, .int m4), (3, .ref (ad 154)), (2, .ref (ad 155)), (1, .ref (ad 0)), (0, .ref b)]) E.1 E.2.1 dL_law_1040 hl (by decide) rfl (fun ls hl => ?_)
  refine lv_aload_n E.1 E.2.1 dL_law_1042 rfl (lv_at hl 4 rfl) ?_
  refine x_callop E h hl 155 155 hf xsub_lawM (fun r0 hr => c_X9_thrown l D cy s00 _ (xs 155 S8)  r0 hr) m_X9_thrown rfl rfl kw1681 rfl rfl (Nat.le_of_ble_eq_true rfl) ⟨Nat.le_of_ble_eq_true rfl, Nat.le_of_ble_eq_true rfl⟩ ⟨by omega, by omega⟩ dL_law_1043 (fun v9 H locs hf h => ?_)
  refine lv_iload E.1 E.2.1 dL_law_1046 (lv_at hl 1 rfl) ?_
  refine x_br hf (lv_icmp_eq (tgt := 1053) E.1 E.2.1 dL_law_1048 (by decide)) (fun hf => ?_) (fun hf => ?_)
  · refine lv_iload E.1 E.2.1 dL_law_1053 (lv_at hl 1 rfl) ?_
    refine x_brn hf (lv_if_ne (tgt := 1070) E.1 E.2.1 dL_law_1055 (by decide)) (fun hf => ?_) (fun hf => ?_)
    · refine lv_goto (tgt := 2957) E.1 E.2.1 dL_law_1070 (by decide) ?_
      exact x_wid ⟨by omega, by omega⟩ (hk _ H locs ls hf h (lv_sub hl [2, 3, 4, 5, 6] rfl))
    · refine lv_aload_n E.1 E.2.1 dL_law_1058 rfl (lv_at hl 3 rfl) ?_
      refine lv_iconst (v := 0) E.1 E.2.1 dL_law_1059 (by decide) ?_
      refine x_lald1 E h 154 rfl dL_law_1060 ?_
      refine lv_iload E.1 E.2.1 dL_law_1061 (lv_at hl 0 rfl) ?_
      refine lv_i2l E.1 E.2.1 dL_law_1063 rfl ?_
      refine W.lcmp E.1 E.2.1 dL_law_1064 ?_
      refine x_bre (lg_cmp0 _ _) hf (lv_if_eq (tgt := 1070) E.1 E.2.1 dL_law_1065 (by decide)) (fun hf => ?_) (fun hf => ?_)
      · refine lv_goto (tgt := 2957) E.1 E.2.1 dL_law_1070 (by decide) ?_
        exact x_wid ⟨by omega, by omega⟩ (hk _ H locs ls hf h (lv_sub hl [2, 3, 4, 5, 6] rfl))
      · cases hf
  · cases hf
set_option maxHeartbeats 4000000 in
set_option maxRecDepth 100000 in
theorem w_Lc12 {p : Program} {l : Launch} {e : Env} {s : State} {m : MethodId} {args : Array Value} {below : List Frame} {meth : Method} {c : Code} {D : va_G} {cy : Nat → ClassId} {s00 : State} {ad : Nat → Nat} {A : Nat → Prop} {Q : State → Prop} {b L : Nat} {sx : Nat → Int32} {rt : Option FieldType} (hX : va_X b L sx s s.heap) (hb : b < s.heap.size ∧ ¬ A b) (hT : l.stackTraces = false ∧ XDW s00) (hG : XG s00) {tE : xEnT} (hEn : XEn s00 tE) (hNc : XNc s00) {c0 m0 : Nat} (hc0 : c0 + 6 ≤ room_1.cells) (hm0 : m0 + 36 ≤ room_1.slots) {K : XS → Option Unit} {m4 : Int32} (E : XE p s m args meth c cL_law 9 RL rt D cy s00) (hk : ∀ (S1 : XS) (H : Heap) (locs : List Loc) (ls : Array Slot), K S1 = some () → XH D cy s00 shLaw ad S1 A s H locs → lv_has ls 9 [(4, .int m4), (3, .ref (ad 154)), (2, .ref (ad 155)), (1, .ref (ad 0)), (0, .ref b)] → W p l e room_1 s m args below meth c H locs (c0 + 6) (m0 + 36) Q (F0 m 2957 ls [])) (S : XS) (H : Heap) (locs : List Loc) (ls : Array Slot) (hf : f_Lc12 L sx K m4 S = some ()) (h : XH D cy s00 shLaw ad S A s H locs) (hl : lv_has ls 9 [(4, .int m4), (3, .ref (ad 154)), (2, .ref (ad 155)), (1, .ref (ad 0)), (0, .ref b)]) : W p l e room_1 s m args below meth c H locs c0 m0 Q (F0 m 1073 ls []) := by
  unfold f_Lc12 at hf
  refine lv_aload_n E.1 E.2.1 dL_law_1073 rfl (lv_at hl 3 rfl) ?_
  refine lv_aload_n E.1 E.2.1 dL_law_1074 rfl (lv_at hl 4 rfl) ?_
  refine lv_iload E.1 E.2.1 dL_law_1075 (lv_at hl 0 rfl) ?_
  refine lv_iconst (v := 1) E.1 E.2.1 dL_law_1077 (by decide) ?_
  refine lv_iadd E.1 E.2.1 dL_law_1078 ?_
  refine x_sld hX hb E h hf dL_law_1079 (fun v1 hf => ?_)
  refine lv_aload_n E.1 E.2.1 dL_law_1080 rfl (lv_at hl 4 rfl) ?_
  refine lv_iload E.1 E.2.1 dL_law_1081 (lv_at hl 0 rfl) ?_
  refine lv_iconst (v := 2) E.1 E.2.1 dL_law_1083 (by decide) ?_
  refine lv_iadd E.1 E.2.1 dL_law_1084 ?_
  refine x_sld hX hb E h hf dL_law_1085 (fun v2 hf => ?_)
  refine x_br hf (lv_if_eq (tgt := 1093) E.1 E.2.1 dL_law_1086 (by decide)) (fun hf => ?_) (fun hf => ?_)
  · refine lv_iconst (v := 0) E.1 E.2.1 dL_law_1093 (by decide) ?_
    refine lv_aload_n E.1 E.2.1 dL_law_1094 rfl (lv_at hl 1 rfl) ?_
    refine x_callW E h hl hf xsub_lawW (fun r0 Sq0 hr => c_L_vote l D cy s00 _ hT hG hNc (xs 0 S) v1 0 r0 Sq0 hr) mw_L_vote ⟨by decide +kernel, by decide +kernel, (by decide +kernel : (parseMethodDescriptor yL_vote.desc).map (fun d => d.parameters.length) = some 4)⟩ kw1083 rfl rfl (Nat.le_of_ble_eq_true rfl) ⟨Nat.le_of_ble_eq_true rfl, Nat.le_of_ble_eq_true rfl⟩ ⟨by omega, by omega⟩ dL_law_1095 (fun v3 S4 H locs hf h => ?_)
    refine lv_istore (lv' := [(5, .int v3), (4, .int m4), (3, .ref (ad 154)), (2, .ref (ad 155)), (1, .ref (ad 0)), (0, .ref b)]) E.1 E.2.1 dL_law_1098 hl (by decide) rfl (fun ls hl => ?_)
    refine lv_aload_n E.1 E.2.1 dL_law_1100 rfl (lv_at hl 3 rfl) ?_
    refine lv_aload_n E.1 E.2.1 dL_law_1101 rfl (lv_at hl 5 rfl) ?_
    refine lv_iload E.1 E.2.1 dL_law_1102 (lv_at hl 1 rfl) ?_
    refine lv_iconst (v := 1) E.1 E.2.1 dL_law_1104 (by decide) ?_
    refine lv_iadd E.1 E.2.1 dL_law_1105 ?_
    refine x_sld hX hb E h hf dL_law_1106 (fun v5 hf => ?_)
    refine lv_aload_n E.1 E.2.1 dL_law_1107 rfl (lv_at hl 5 rfl) ?_
    refine lv_iload E.1 E.2.1 dL_law_1108 (lv_at hl 1 rfl) ?_
    refine lv_iconst (v := 2) E.1 E.2.1 dL_law_1110 (by decide) ?_
    refine lv_iadd E.1 E.2.1 dL_law_1111 ?_
    refine x_sld hX hb E h hf dL_law_1112 (fun v6 hf => ?_)
    refine x_br hf (lv_if_eq (tgt := 1120) E.1 E.2.1 dL_law_1113 (by decide)) (fun hf => ?_) (fun hf => ?_)
    · refine lv_iconst (v := 0) E.1 E.2.1 dL_law_1120 (by decide) ?_
      refine x_calloi E h hl 155 155 hf xsub_lawM (fun r0 Sq0 hr => c_X9_vote l D cy s00 _ (xs 155 S4) v5 0 r0 Sq0 hr) m_X9_vote rfl rfl kw1776 rfl rfl (Nat.le_of_ble_eq_true rfl) ⟨Nat.le_of_ble_eq_true rfl, Nat.le_of_ble_eq_true rfl⟩ ⟨by omega, by omega⟩ dL_law_1121 (fun v7 S8 H locs hf h => ?_)
      refine lv_istore (lv' := [(6, .int v7), (5, .int v3), (4, .int m4), (3, .ref (ad 154)), (2, .ref (ad 155)), (1, .ref (ad 0)), (0, .ref b)]) E.1 E.2.1 dL_law_1124 hl (by decide) rfl (fun ls hl => ?_)
      refine lv_aload_n E.1 E.2.1 dL_law_1126 rfl (lv_at hl 4 rfl) ?_
      refine x_callop E h hl 155 155 hf xsub_lawM (fun r0 hr => c_X9_thrown l D cy s00 _ (xs 155 S8)  r0 hr) m_X9_thrown rfl rfl kw1681 rfl rfl (Nat.le_of_ble_eq_true rfl) ⟨Nat.le_of_ble_eq_true rfl, Nat.le_of_ble_eq_true rfl⟩ ⟨by omega, by omega⟩ dL_law_1127 (fun v9 H locs hf h => ?_)
      refine lv_iload E.1 E.2.1 dL_law_1130 (lv_at hl 1 rfl) ?_
      refine x_br hf (lv_icmp_eq (tgt := 1137) E.1 E.2.1 dL_law_1132 (by decide)) (fun hf => ?_) (fun hf => ?_)
      · refine lv_iload E.1 E.2.1 dL_law_1137 (lv_at hl 1 rfl) ?_
        refine x_brn hf (lv_if_ne (tgt := 1161) E.1 E.2.1 dL_law_1139 (by decide)) (fun hf => ?_) (fun hf => ?_)
        · refine lv_goto (tgt := 2957) E.1 E.2.1 dL_law_1161 (by decide) ?_
          exact x_wid ⟨by omega, by omega⟩ (hk _ H locs ls hf h (lv_sub hl [2, 3, 4, 5, 6] rfl))
        · refine lv_aload_n E.1 E.2.1 dL_law_1142 rfl (lv_at hl 3 rfl) ?_
          refine lv_iconst (v := 0) E.1 E.2.1 dL_law_1143 (by decide) ?_
          refine x_lald1 E h 154 rfl dL_law_1144 ?_
          refine lv_iload E.1 E.2.1 dL_law_1145 (lv_at hl 0 rfl) ?_
          refine x_br hf (lv_if_eq (tgt := 1154) E.1 E.2.1 dL_law_1147 (by decide)) (fun hf => ?_) (fun hf => ?_)
          · refine lv_lconst (v := (0 : Int32).toInt64) E.1 E.2.1 dL_law_1154 (by decide) ?_
            refine W.lcmp E.1 E.2.1 dL_law_1155 ?_
            refine x_bre (lg_cmp0 _ _) hf (lv_if_eq (tgt := 1161) E.1 E.2.1 dL_law_1156 (by decide)) (fun hf => ?_) (fun hf => ?_)
            · refine lv_goto (tgt := 2957) E.1 E.2.1 dL_law_1161 (by decide) ?_
              exact x_wid ⟨by omega, by omega⟩ (hk _ H locs ls hf h (lv_sub hl [2, 3, 4, 5, 6] rfl))
            · cases hf
          · refine lv_lconst (v := (1 : Int32).toInt64) E.1 E.2.1 dL_law_1150 (by decide) ?_
            refine lv_goto (tgt := 1155) E.1 E.2.1 dL_law_1151 (by decide) ?_
            refine W.lcmp E.1 E.2.1 dL_law_1155 ?_
            refine x_bre (lg_cmp0 _ _) hf (lv_if_eq (tgt := 1161) E.1 E.2.1 dL_law_1156 (by decide)) (fun hf => ?_) (fun hf => ?_)
            · refine lv_goto (tgt := 2957) E.1 E.2.1 dL_law_1161 (by decide) ?_
              exact x_wid ⟨by omega, by omega⟩ (hk _ H locs ls hf h (lv_sub hl [2, 3, 4, 5, 6] rfl))
            · cases hf
      · cases hf
    · refine lv_iconst (v := 1) E.1 E.2.1 dL_law_1116 (by decide) ?_
      refine lv_goto (tgt := 1121) E.1 E.2.1 dL_law_1117 (by decide) ?_
      refine x_calloi E h hl 155 155 hf xsub_lawM (fun r0 Sq0 hr => c_X9_vote l D cy s00 _ (xs 155 S4) v5 1 r0 Sq0 hr) m_X9_vote rfl rfl kw1776 rfl rfl (Nat.le_of_ble_eq_true rfl) ⟨Nat.le_of_ble_eq_true rfl, Nat.le_of_ble_eq_true rfl⟩ ⟨by omega, by omega⟩ dL_law_1121 (fun v10 S11 H locs hf h => ?_)
      refine lv_istore (lv' := [(6, .int v10), (5, .int v3), (4, .int m4), (3, .ref (ad 154)), (2, .ref (ad 155)), (1, .ref (ad 0)), (0, .ref b)]) E.1 E.2.1 dL_law_1124 hl (by decide) rfl (fun ls hl => ?_)
      refine lv_aload_n E.1 E.2.1 dL_law_1126 rfl (lv_at hl 4 rfl) ?_
      refine x_callop E h hl 155 155 hf xsub_lawM (fun r0 hr => c_X9_thrown l D cy s00 _ (xs 155 S11)  r0 hr) m_X9_thrown rfl rfl kw1681 rfl rfl (Nat.le_of_ble_eq_true rfl) ⟨Nat.le_of_ble_eq_true rfl, Nat.le_of_ble_eq_true rfl⟩ ⟨by omega, by omega⟩ dL_law_1127 (fun v12 H locs hf h => ?_)
      refine lv_iload E.1 E.2.1 dL_law_1130 (lv_at hl 1 rfl) ?_
      refine x_br hf (lv_icmp_eq (tgt := 1137) E.1 E.2.1 dL_law_1132 (by decide)) (fun hf => ?_) (fun hf => ?_)
      · refine lv_iload E.1 E.2.1 dL_law_1137 (lv_at hl 1 rfl) ?_
        refine x_brn hf (lv_if_ne (tgt := 1161) E.1 E.2.1 dL_law_1139 (by decide)) (fun hf => ?_) (fun hf => ?_)
        · refine lv_goto (tgt := 2957) E.1 E.2.1 dL_law_1161 (by decide) ?_
          exact x_wid ⟨by omega, by omega⟩ (hk _ H locs ls hf h (lv_sub hl [2, 3, 4, 5, 6] rfl))
        · refine lv_aload_n E.1 E.2.1 dL_law_1142 rfl (lv_at hl 3 rfl) ?_
          refine lv_iconst (v := 0) E.1 E.2.1 dL_law_1143 (by decide) ?_
          refine x_lald1 E h 154 rfl dL_law_1144 ?_
          refine lv_iload E.1 E.2.1 dL_law_1145 (lv_at hl 0 rfl) ?_
          refine x_br hf (lv_if_eq (tgt := 1154) E.1 E.2.1 dL_law_1147 (by decide)) (fun hf => ?_) (fun hf => ?_)
          · refine lv_lconst (v := (0 : Int32).toInt64) E.1 E.2.1 dL_law_1154 (by decide) ?_
            refine W.lcmp E.1 E.2.1 dL_law_1155 ?_
            refine x_bre (lg_cmp0 _ _) hf (lv_if_eq (tgt := 1161) E.1 E.2.1 dL_law_1156 (by decide)) (fun hf => ?_) (fun hf => ?_)
            · refine lv_goto (tgt := 2957) E.1 E.2.1 dL_law_1161 (by decide) ?_
              exact x_wid ⟨by omega, by omega⟩ (hk _ H locs ls hf h (lv_sub hl [2, 3, 4, 5, 6] rfl))
            · cases hf
          · refine lv_lconst (v := (1 : Int32).toInt64) E.1 E.2.1 dL_law_1150 (by decide) ?_
            refine lv_goto (tgt := 1155) E.1 E.2.1 dL_law_1151 (by decide) ?_
            refine W.lcmp E.1 E.2.1 dL_law_1155 ?_
            refine x_bre (lg_cmp0 _ _) hf (lv_if_eq (tgt := 1161) E.1 E.2.1 dL_law_1156 (by decide)) (fun hf => ?_) (fun hf => ?_)
            · refine lv_goto (tgt := 2957) E.1 E.2.1 dL_law_1161 (by decide) ?_
              exact x_wid ⟨by omega, by omega⟩ (hk _ H locs ls hf h (lv_sub hl [2, 3, 4, 5, 6] rfl))
            · cases hf
      · cases hf
  · refine lv_iconst (v := 1) E.1 E.2.1 dL_law_1089 (by decide) ?_
    refine lv_goto (tgt := 1094) E.1 E.2.1 dL_law_1090 (by decide) ?_
    refine lv_aload_n E.1 E.2.1 dL_law_1094 rfl (lv_at hl 1 rfl) ?_
    refine x_callW E h hl hf xsub_lawW (fun r0 Sq0 hr => c_L_vote l D cy s00 _ hT hG hNc (xs 0 S) v1 1 r0 Sq0 hr) mw_L_vote ⟨by decide +kernel, by decide +kernel, (by decide +kernel : (parseMethodDescriptor yL_vote.desc).map (fun d => d.parameters.length) = some 4)⟩ kw1083 rfl rfl (Nat.le_of_ble_eq_true rfl) ⟨Nat.le_of_ble_eq_true rfl, Nat.le_of_ble_eq_true rfl⟩ ⟨by omega, by omega⟩ dL_law_1095 (fun v13 S14 H locs hf h => ?_)
    refine lv_istore (lv' := [(5, .int v13), (4, .int m4), (3, .ref (ad 154)), (2, .ref (ad 155)), (1, .ref (ad 0)), (0, .ref b)]) E.1 E.2.1 dL_law_1098 hl (by decide) rfl (fun ls hl => ?_)
    refine lv_aload_n E.1 E.2.1 dL_law_1100 rfl (lv_at hl 3 rfl) ?_
    refine lv_aload_n E.1 E.2.1 dL_law_1101 rfl (lv_at hl 5 rfl) ?_
    refine lv_iload E.1 E.2.1 dL_law_1102 (lv_at hl 1 rfl) ?_
    refine lv_iconst (v := 1) E.1 E.2.1 dL_law_1104 (by decide) ?_
    refine lv_iadd E.1 E.2.1 dL_law_1105 ?_
    refine x_sld hX hb E h hf dL_law_1106 (fun v15 hf => ?_)
    refine lv_aload_n E.1 E.2.1 dL_law_1107 rfl (lv_at hl 5 rfl) ?_
    refine lv_iload E.1 E.2.1 dL_law_1108 (lv_at hl 1 rfl) ?_
    refine lv_iconst (v := 2) E.1 E.2.1 dL_law_1110 (by decide) ?_
    refine lv_iadd E.1 E.2.1 dL_law_1111 ?_
    refine x_sld hX hb E h hf dL_law_1112 (fun v16 hf => ?_)
    refine x_br hf (lv_if_eq (tgt := 1120) E.1 E.2.1 dL_law_1113 (by decide)) (fun hf => ?_) (fun hf => ?_)
    · refine lv_iconst (v := 0) E.1 E.2.1 dL_law_1120 (by decide) ?_
      refine x_calloi E h hl 155 155 hf xsub_lawM (fun r0 Sq0 hr => c_X9_vote l D cy s00 _ (xs 155 S14) v15 0 r0 Sq0 hr) m_X9_vote rfl rfl kw1776 rfl rfl (Nat.le_of_ble_eq_true rfl) ⟨Nat.le_of_ble_eq_true rfl, Nat.le_of_ble_eq_true rfl⟩ ⟨by omega, by omega⟩ dL_law_1121 (fun v17 S18 H locs hf h => ?_)
      refine lv_istore (lv' := [(6, .int v17), (5, .int v13), (4, .int m4), (3, .ref (ad 154)), (2, .ref (ad 155)), (1, .ref (ad 0)), (0, .ref b)]) E.1 E.2.1 dL_law_1124 hl (by decide) rfl (fun ls hl => ?_)
      refine lv_aload_n E.1 E.2.1 dL_law_1126 rfl (lv_at hl 4 rfl) ?_
      refine x_callop E h hl 155 155 hf xsub_lawM (fun r0 hr => c_X9_thrown l D cy s00 _ (xs 155 S18)  r0 hr) m_X9_thrown rfl rfl kw1681 rfl rfl (Nat.le_of_ble_eq_true rfl) ⟨Nat.le_of_ble_eq_true rfl, Nat.le_of_ble_eq_true rfl⟩ ⟨by omega, by omega⟩ dL_law_1127 (fun v19 H locs hf h => ?_)
      refine lv_iload E.1 E.2.1 dL_law_1130 (lv_at hl 1 rfl) ?_
      refine x_br hf (lv_icmp_eq (tgt := 1137) E.1 E.2.1 dL_law_1132 (by decide)) (fun hf => ?_) (fun hf => ?_)
      · refine lv_iload E.1 E.2.1 dL_law_1137 (lv_at hl 1 rfl) ?_
        refine x_brn hf (lv_if_ne (tgt := 1161) E.1 E.2.1 dL_law_1139 (by decide)) (fun hf => ?_) (fun hf => ?_)
        · refine lv_goto (tgt := 2957) E.1 E.2.1 dL_law_1161 (by decide) ?_
          exact x_wid ⟨by omega, by omega⟩ (hk _ H locs ls hf h (lv_sub hl [2, 3, 4, 5, 6] rfl))
        · refine lv_aload_n E.1 E.2.1 dL_law_1142 rfl (lv_at hl 3 rfl) ?_
          refine lv_iconst (v := 0) E.1 E.2.1 dL_law_1143 (by decide) ?_
          refine x_lald1 E h 154 rfl dL_law_1144 ?_
          refine lv_iload E.1 E.2.1 dL_law_1145 (lv_at hl 0 rfl) ?_
          refine x_br hf (lv_if_eq (tgt := 1154) E.1 E.2.1 dL_law_1147 (by decide)) (fun hf => ?_) (fun hf => ?_)
          · refine lv_lconst (v := (0 : Int32).toInt64) E.1 E.2.1 dL_law_1154 (by decide) ?_
            refine W.lcmp E.1 E.2.1 dL_law_1155 ?_
            refine x_bre (lg_cmp0 _ _) hf (lv_if_eq (tgt := 1161) E.1 E.2.1 dL_law_1156 (by decide)) (fun hf => ?_) (fun hf => ?_)
            · refine lv_goto (tgt := 2957) E.1 E.2.1 dL_law_1161 (by decide) ?_
              exact x_wid ⟨by omega, by omega⟩ (hk _ H locs ls hf h (lv_sub hl [2, 3, 4, 5, 6] rfl))
            · cases hf
          · refine lv_lconst (v := (1 : Int32).toInt64) E.1 E.2.1 dL_law_1150 (by decide) ?_
            refine lv_goto (tgt := 1155) E.1 E.2.1 dL_law_1151 (by decide) ?_
            refine W.lcmp E.1 E.2.1 dL_law_1155 ?_
            refine x_bre (lg_cmp0 _ _) hf (lv_if_eq (tgt := 1161) E.1 E.2.1 dL_law_1156 (by decide)) (fun hf => ?_) (fun hf => ?_)
            · refine lv_goto (tgt := 2957) E.1 E.2.1 dL_law_1161 (by decide) ?_
              exact x_wid ⟨by omega, by omega⟩ (hk _ H locs ls hf h (lv_sub hl [2, 3, 4, 5, 6] rfl))
            · cases hf
      · cases hf
    · refine lv_iconst (v := 1) E.1 E.2.1 dL_law_1116 (by decide) ?_
      refine lv_goto (tgt := 1121) E.1 E.2.1 dL_law_1117 (by decide) ?_
      refine x_calloi E h hl 155 155 hf xsub_lawM (fun r0 Sq0 hr => c_X9_vote l D cy s00 _ (xs 155 S14) v15 1 r0 Sq0 hr) m_X9_vote rfl rfl kw1776 rfl rfl (Nat.le_of_ble_eq_true rfl) ⟨Nat.le_of_ble_eq_true rfl, Nat.le_of_ble_eq_true rfl⟩ ⟨by omega, by omega⟩ dL_law_1121 (fun v20 S21 H locs hf h => ?_)
      refine lv_istore (lv' := [(6, .int v20), (5, .int v13), (4, .int m4), (3, .ref (ad 154)), (2, .ref (ad 155)), (1, .ref (ad 0)), (0, .ref b)]) E.1 E.2.1 dL_law_1124 hl (by decide) rfl (fun ls hl => ?_)
      refine lv_aload_n E.1 E.2.1 dL_law_1126 rfl (lv_at hl 4 rfl) ?_
      refine x_callop E h hl 155 155 hf xsub_lawM (fun r0 hr => c_X9_thrown l D cy s00 _ (xs 155 S21)  r0 hr) m_X9_thrown rfl rfl kw1681 rfl rfl (Nat.le_of_ble_eq_true rfl) ⟨Nat.le_of_ble_eq_true rfl, Nat.le_of_ble_eq_true rfl⟩ ⟨by omega, by omega⟩ dL_law_1127 (fun v22 H locs hf h => ?_)
      refine lv_iload E.1 E.2.1 dL_law_1130 (lv_at hl 1 rfl) ?_
      refine x_br hf (lv_icmp_eq (tgt := 1137) E.1 E.2.1 dL_law_1132 (by decide)) (fun hf => ?_) (fun hf => ?_)
      · refine lv_iload E.1 E.2.1 dL_law_1137 (lv_at hl 1 rfl) ?_
        refine x_brn hf (lv_if_ne (tgt := 1161) E.1 E.2.1 dL_law_1139 (by decide)) (fun hf => ?_) (fun hf => ?_)
        · refine lv_goto (tgt := 2957) E.1 E.2.1 dL_law_1161 (by decide) ?_
          exact x_wid ⟨by omega, by omega⟩ (hk _ H locs ls hf h (lv_sub hl [2, 3, 4, 5, 6] rfl))
        · refine lv_aload_n E.1 E.2.1 dL_law_1142 rfl (lv_at hl 3 rfl) ?_
          refine lv_iconst (v := 0) E.1 E.2.1 dL_law_1143 (by decide) ?_
          refine x_lald1 E h 154 rfl dL_law_1144 ?_
          refine lv_iload E.1 E.2.1 dL_law_1145 (lv_at hl 0 rfl) ?_
          refine x_br hf (lv_if_eq (tgt := 1154) E.1 E.2.1 dL_law_1147 (by decide)) (fun hf => ?_) (fun hf => ?_)
          · refine lv_lconst (v := (0 : Int32).toInt64) E.1 E.2.1 dL_law_1154 (by decide) ?_
            refine W.lcmp E.1 E.2.1 dL_law_1155 ?_
            refine x_bre (lg_cmp0 _ _) hf (lv_if_eq (tgt := 1161) E.1 E.2.1 dL_law_1156 (by decide)) (fun hf => ?_) (fun hf => ?_)
            · refine lv_goto (tgt := 2957) E.1 E.2.1 dL_law_1161 (by decide) ?_
              exact x_wid ⟨by omega, by omega⟩ (hk _ H locs ls hf h (lv_sub hl [2, 3, 4, 5, 6] rfl))
            · cases hf
          · refine lv_lconst (v := (1 : Int32).toInt64) E.1 E.2.1 dL_law_1150 (by decide) ?_
            refine lv_goto (tgt := 1155) E.1 E.2.1 dL_law_1151 (by decide) ?_
            refine W.lcmp E.1 E.2.1 dL_law_1155 ?_
            refine x_bre (lg_cmp0 _ _) hf (lv_if_eq (tgt := 1161) E.1 E.2.1 dL_law_1156 (by decide)) (fun hf => ?_) (fun hf => ?_)
            · refine lv_goto (tgt := 2957) E.1 E.2.1 dL_law_1161 (by decide) ?_
              exact x_wid ⟨by omega, by omega⟩ (hk _ H locs ls hf h (lv_sub hl [2, 3, 4, 5, 6] rfl))
            · cases hf
      · cases hf
set_option maxHeartbeats 4000000 in
set_option maxRecDepth 100000 in
theorem w_Lc13 {p : Program} {l : Launch} {e : Env} {s : State} {m : MethodId} {args : Array Value} {below : List Frame} {meth : Method} {c : Code} {D : va_G} {cy : Nat → ClassId} {s00 : State} {ad : Nat → Nat} {A : Nat → Prop} {Q : State → Prop} {b L : Nat} {sx : Nat → Int32} {rt : Option FieldType} (hX : va_X b L sx s s.heap) (hb : b < s.heap.size ∧ ¬ A b) (hT : l.stackTraces = false ∧ XDW s00) (hG : XG s00) {tE : xEnT} (hEn : XEn s00 tE) (hNc : XNc s00) {c0 m0 : Nat} (hc0 : c0 + 6 ≤ room_1.cells) (hm0 : m0 + 36 ≤ room_1.slots) {K : XS → Option Unit} {m4 : Int32} (E : XE p s m args meth c cL_law 9 RL rt D cy s00) (hk : ∀ (S1 : XS) (H : Heap) (locs : List Loc) (ls : Array Slot), K S1 = some () → XH D cy s00 shLaw ad S1 A s H locs → lv_has ls 9 [(4, .int m4), (3, .ref (ad 154)), (2, .ref (ad 155)), (1, .ref (ad 0)), (0, .ref b)] → W p l e room_1 s m args below meth c H locs (c0 + 6) (m0 + 36) Q (F0 m 2957 ls [])) (S : XS) (H : Heap) (locs : List Loc) (ls : Array Slot) (hf : f_Lc13 L sx K m4 S = some ()) (h : XH D cy s00 shLaw ad S A s H locs) (hl : lv_has ls 9 [(4, .int m4), (3, .ref (ad 154)), (2, .ref (ad 155)), (1, .ref (ad 0)), (0, .ref b)]) : W p l e room_1 s m args below meth c H locs c0 m0 Q (F0 m 1164 ls []) := by
  unfold f_Lc13 at hf
  refine lv_aload_n E.1 E.2.1 dL_law_1164 rfl (lv_at hl 3 rfl) ?_
  refine lv_aload_n E.1 E.2.1 dL_law_1165 rfl (lv_at hl 4 rfl) ?_
  refine lv_iload E.1 E.2.1 dL_law_1166 (lv_at hl 0 rfl) ?_
  refine lv_iconst (v := 1) E.1 E.2.1 dL_law_1168 (by decide) ?_
  refine lv_iadd E.1 E.2.1 dL_law_1169 ?_
  refine x_sld hX hb E h hf dL_law_1170 (fun v1 hf => ?_)
  refine lv_aload_n E.1 E.2.1 dL_law_1171 rfl (lv_at hl 1 rfl) ?_
  refine x_callW E h hl hf xsub_lawW (fun r0 Sq0 hr => c_L_passNights l D cy s00 _ hT hG hNc (xs 0 S) v1 r0 Sq0 hr) mw_L_passNights ⟨by decide +kernel, by decide +kernel, (by decide +kernel : (parseMethodDescriptor yL_passNights.desc).map (fun d => d.parameters.length) = some 3)⟩ kw1092 rfl rfl (Nat.le_of_ble_eq_true rfl) ⟨Nat.le_of_ble_eq_true rfl, Nat.le_of_ble_eq_true rfl⟩ ⟨by omega, by omega⟩ dL_law_1172 (fun v2 S3 H locs hf h => ?_)
  refine lv_istore (lv' := [(5, .int v2), (4, .int m4), (3, .ref (ad 154)), (2, .ref (ad 155)), (1, .ref (ad 0)), (0, .ref b)]) E.1 E.2.1 dL_law_1175 hl (by decide) rfl (fun ls hl => ?_)
  refine lv_aload_n E.1 E.2.1 dL_law_1177 rfl (lv_at hl 3 rfl) ?_
  refine lv_aload_n E.1 E.2.1 dL_law_1178 rfl (lv_at hl 5 rfl) ?_
  refine lv_iload E.1 E.2.1 dL_law_1179 (lv_at hl 1 rfl) ?_
  refine lv_iconst (v := 1) E.1 E.2.1 dL_law_1181 (by decide) ?_
  refine lv_iadd E.1 E.2.1 dL_law_1182 ?_
  refine x_sld hX hb E h hf dL_law_1183 (fun v4 hf => ?_)
  refine x_calloi E h hl 155 155 hf xsub_lawM (fun r0 Sq0 hr => c_X9_passNights l D cy s00 _ (xs 155 S3) v4 r0 Sq0 hr) m_X9_passNights rfl rfl kw1780 rfl rfl (Nat.le_of_ble_eq_true rfl) ⟨Nat.le_of_ble_eq_true rfl, Nat.le_of_ble_eq_true rfl⟩ ⟨by omega, by omega⟩ dL_law_1184 (fun v5 S6 H locs hf h => ?_)
  refine lv_istore (lv' := [(6, .int v5), (5, .int v2), (4, .int m4), (3, .ref (ad 154)), (2, .ref (ad 155)), (1, .ref (ad 0)), (0, .ref b)]) E.1 E.2.1 dL_law_1187 hl (by decide) rfl (fun ls hl => ?_)
  refine lv_aload_n E.1 E.2.1 dL_law_1189 rfl (lv_at hl 4 rfl) ?_
  refine x_callop E h hl 155 155 hf xsub_lawM (fun r0 hr => c_X9_thrown l D cy s00 _ (xs 155 S6)  r0 hr) m_X9_thrown rfl rfl kw1681 rfl rfl (Nat.le_of_ble_eq_true rfl) ⟨Nat.le_of_ble_eq_true rfl, Nat.le_of_ble_eq_true rfl⟩ ⟨by omega, by omega⟩ dL_law_1190 (fun v7 H locs hf h => ?_)
  refine lv_iload E.1 E.2.1 dL_law_1193 (lv_at hl 1 rfl) ?_
  refine x_br hf (lv_icmp_eq (tgt := 1200) E.1 E.2.1 dL_law_1195 (by decide)) (fun hf => ?_) (fun hf => ?_)
  · refine lv_iload E.1 E.2.1 dL_law_1200 (lv_at hl 1 rfl) ?_
    refine x_brn hf (lv_if_ne (tgt := 1217) E.1 E.2.1 dL_law_1202 (by decide)) (fun hf => ?_) (fun hf => ?_)
    · refine lv_goto (tgt := 2957) E.1 E.2.1 dL_law_1217 (by decide) ?_
      exact x_wid ⟨by omega, by omega⟩ (hk _ H locs ls hf h (lv_sub hl [2, 3, 4, 5, 6] rfl))
    · refine lv_aload_n E.1 E.2.1 dL_law_1205 rfl (lv_at hl 3 rfl) ?_
      refine lv_iconst (v := 0) E.1 E.2.1 dL_law_1206 (by decide) ?_
      refine x_lald1 E h 154 rfl dL_law_1207 ?_
      refine lv_iload E.1 E.2.1 dL_law_1208 (lv_at hl 0 rfl) ?_
      refine lv_i2l E.1 E.2.1 dL_law_1210 rfl ?_
      refine W.lcmp E.1 E.2.1 dL_law_1211 ?_
      refine x_bre (lg_cmp0 _ _) hf (lv_if_eq (tgt := 1217) E.1 E.2.1 dL_law_1212 (by decide)) (fun hf => ?_) (fun hf => ?_)
      · refine lv_goto (tgt := 2957) E.1 E.2.1 dL_law_1217 (by decide) ?_
        exact x_wid ⟨by omega, by omega⟩ (hk _ H locs ls hf h (lv_sub hl [2, 3, 4, 5, 6] rfl))
      · cases hf
  · cases hf
set_option maxHeartbeats 4000000 in
set_option maxRecDepth 100000 in
theorem w_Lc14 {p : Program} {l : Launch} {e : Env} {s : State} {m : MethodId} {args : Array Value} {below : List Frame} {meth : Method} {c : Code} {D : va_G} {cy : Nat → ClassId} {s00 : State} {ad : Nat → Nat} {A : Nat → Prop} {Q : State → Prop} {b L : Nat} {sx : Nat → Int32} {rt : Option FieldType} (hX : va_X b L sx s s.heap) (hb : b < s.heap.size ∧ ¬ A b) (hT : l.stackTraces = false ∧ XDW s00) (hG : XG s00) {tE : xEnT} (hEn : XEn s00 tE) (hNc : XNc s00) {c0 m0 : Nat} (hc0 : c0 + 6 ≤ room_1.cells) (hm0 : m0 + 36 ≤ room_1.slots) {K : XS → Option Unit} {m4 : Int32} (E : XE p s m args meth c cL_law 9 RL rt D cy s00) (hk : ∀ (S1 : XS) (H : Heap) (locs : List Loc) (ls : Array Slot), K S1 = some () → XH D cy s00 shLaw ad S1 A s H locs → lv_has ls 9 [(4, .int m4), (3, .ref (ad 154)), (2, .ref (ad 155)), (1, .ref (ad 0)), (0, .ref b)] → W p l e room_1 s m args below meth c H locs (c0 + 6) (m0 + 36) Q (F0 m 2957 ls [])) (S : XS) (H : Heap) (locs : List Loc) (ls : Array Slot) (hf : f_Lc14 L sx K m4 S = some ()) (h : XH D cy s00 shLaw ad S A s H locs) (hl : lv_has ls 9 [(4, .int m4), (3, .ref (ad 154)), (2, .ref (ad 155)), (1, .ref (ad 0)), (0, .ref b)]) : W p l e room_1 s m args below meth c H locs c0 m0 Q (F0 m 1220 ls []) := by
  unfold f_Lc14 at hf
  refine lv_aload_n E.1 E.2.1 dL_law_1220 rfl (lv_at hl 3 rfl) ?_
  refine x_calloi E h hl 0 0 hf xsub_lawX (fun r0 Sq0 hr => c_X8_undo l D cy s00 _ (xs 0 S)  r0 Sq0 hr) m_X8_undo rfl rfl kw732 rfl rfl (Nat.le_of_ble_eq_true rfl) ⟨Nat.le_of_ble_eq_true rfl, Nat.le_of_ble_eq_true rfl⟩ ⟨by omega, by omega⟩ dL_law_1221 (fun v1 S2 H locs hf h => ?_)
  refine lv_aload_n E.1 E.2.1 dL_law_1224 rfl (lv_at hl 2 rfl) ?_
  refine x_calloi E h hl 155 155 hf xsub_lawM (fun r0 Sq0 hr => c_X9_undo l D cy s00 _ (xs 155 S2)  r0 Sq0 hr) m_X9_undo rfl rfl kw1784 rfl rfl (Nat.le_of_ble_eq_true rfl) ⟨Nat.le_of_ble_eq_true rfl, Nat.le_of_ble_eq_true rfl⟩ ⟨by omega, by omega⟩ dL_law_1225 (fun v3 S4 H locs hf h => ?_)
  refine x_br hf (lv_icmp_eq (tgt := 2957) E.1 E.2.1 dL_law_1228 (by decide)) (fun hf => ?_) (fun hf => ?_)
  · exact x_wid ⟨by omega, by omega⟩ (hk _ H locs ls hf h (lv_sub hl [0, 1, 2, 3, 4] rfl))
  · cases hf
set_option maxHeartbeats 4000000 in
set_option maxRecDepth 100000 in
theorem w_Lc15 {p : Program} {l : Launch} {e : Env} {s : State} {m : MethodId} {args : Array Value} {below : List Frame} {meth : Method} {c : Code} {D : va_G} {cy : Nat → ClassId} {s00 : State} {ad : Nat → Nat} {A : Nat → Prop} {Q : State → Prop} {b L : Nat} {sx : Nat → Int32} {rt : Option FieldType} (hX : va_X b L sx s s.heap) (hb : b < s.heap.size ∧ ¬ A b) (hT : l.stackTraces = false ∧ XDW s00) (hG : XG s00) {tE : xEnT} (hEn : XEn s00 tE) (hNc : XNc s00) {c0 m0 : Nat} (hc0 : c0 + 6 ≤ room_1.cells) (hm0 : m0 + 36 ≤ room_1.slots) {K : XS → Option Unit} {m4 : Int32} (E : XE p s m args meth c cL_law 9 RL rt D cy s00) (hk : ∀ (S1 : XS) (H : Heap) (locs : List Loc) (ls : Array Slot), K S1 = some () → XH D cy s00 shLaw ad S1 A s H locs → lv_has ls 9 [(4, .int m4), (3, .ref (ad 154)), (2, .ref (ad 155)), (1, .ref (ad 0)), (0, .ref b)] → W p l e room_1 s m args below meth c H locs (c0 + 6) (m0 + 36) Q (F0 m 2957 ls [])) (S : XS) (H : Heap) (locs : List Loc) (ls : Array Slot) (hf : f_Lc15 L sx K m4 S = some ()) (h : XH D cy s00 shLaw ad S A s H locs) (hl : lv_has ls 9 [(4, .int m4), (3, .ref (ad 154)), (2, .ref (ad 155)), (1, .ref (ad 0)), (0, .ref b)]) : W p l e room_1 s m args below meth c H locs c0 m0 Q (F0 m 1233 ls []) := by
  unfold f_Lc15 at hf
  refine lv_aload_n E.1 E.2.1 dL_law_1233 rfl (lv_at hl 3 rfl) ?_
  refine x_callop E h hl 0 0 hf xsub_lawX (fun r0 hr => c_X8_undoCount l D cy s00 _ (xs 0 S)  r0 hr) m_X8_undoCount rfl rfl kw740 rfl rfl (Nat.le_of_ble_eq_true rfl) ⟨Nat.le_of_ble_eq_true rfl, Nat.le_of_ble_eq_true rfl⟩ ⟨by omega, by omega⟩ dL_law_1234 (fun v1 H locs hf h => ?_)
  refine lv_aload_n E.1 E.2.1 dL_law_1237 rfl (lv_at hl 2 rfl) ?_
  refine x_calloi E h hl 155 155 hf xsub_lawM (fun r0 Sq0 hr => c_X9_undoCount l D cy s00 _ (xs 155 S)  r0 Sq0 hr) m_X9_undoCount rfl rfl kw1788 rfl rfl (Nat.le_of_ble_eq_true rfl) ⟨Nat.le_of_ble_eq_true rfl, Nat.le_of_ble_eq_true rfl⟩ ⟨by omega, by omega⟩ dL_law_1238 (fun v2 S3 H locs hf h => ?_)
  refine x_br hf (lv_icmp_eq (tgt := 2957) E.1 E.2.1 dL_law_1241 (by decide)) (fun hf => ?_) (fun hf => ?_)
  · exact x_wid ⟨by omega, by omega⟩ (hk _ H locs ls hf h (lv_sub hl [0, 1, 2, 3, 4] rfl))
  · cases hf
set_option maxHeartbeats 4000000 in
set_option maxRecDepth 100000 in
theorem w_Lc16 {p : Program} {l : Launch} {e : Env} {s : State} {m : MethodId} {args : Array Value} {below : List Frame} {meth : Method} {c : Code} {D : va_G} {cy : Nat → ClassId} {s00 : State} {ad : Nat → Nat} {A : Nat → Prop} {Q : State → Prop} {b L : Nat} {sx : Nat → Int32} {rt : Option FieldType} (hX : va_X b L sx s s.heap) (hb : b < s.heap.size ∧ ¬ A b) (hT : l.stackTraces = false ∧ XDW s00) (hG : XG s00) {tE : xEnT} (hEn : XEn s00 tE) (hNc : XNc s00) {c0 m0 : Nat} (hc0 : c0 + 6 ≤ room_1.cells) (hm0 : m0 + 36 ≤ room_1.slots) {K : XS → Option Unit} {m4 : Int32} (E : XE p s m args meth c cL_law 9 RL rt D cy s00) (hk : ∀ (S1 : XS) (H : Heap) (locs : List Loc) (ls : Array Slot), K S1 = some () → XH D cy s00 shLaw ad S1 A s H locs → lv_has ls 9 [(4, .int m4), (3, .ref (ad 154)), (2, .ref (ad 155)), (1, .ref (ad 0)), (0, .ref b)] → W p l e room_1 s m args below meth c H locs (c0 + 6) (m0 + 36) Q (F0 m 2957 ls [])) (S : XS) (H : Heap) (locs : List Loc) (ls : Array Slot) (hf : f_Lc16 L sx K m4 S = some ()) (h : XH D cy s00 shLaw ad S A s H locs) (hl : lv_has ls 9 [(4, .int m4), (3, .ref (ad 154)), (2, .ref (ad 155)), (1, .ref (ad 0)), (0, .ref b)]) : W p l e room_1 s m args below meth c H locs c0 m0 Q (F0 m 1246 ls []) := by
  unfold f_Lc16 at hf
  refine lv_aload_n E.1 E.2.1 dL_law_1246 rfl (lv_at hl 3 rfl) ?_
  refine x_calloi E h hl 0 0 hf xsub_lawX (fun r0 Sq0 hr => c_X8_saveSnapshot l D cy s00 _ (xs 0 S)  r0 Sq0 hr) m_X8_saveSnapshot rfl rfl kw744 rfl rfl (Nat.le_of_ble_eq_true rfl) ⟨Nat.le_of_ble_eq_true rfl, Nat.le_of_ble_eq_true rfl⟩ ⟨by omega, by omega⟩ dL_law_1247 (fun v1 S2 H locs hf h => ?_)
  refine lv_aload_n E.1 E.2.1 dL_law_1250 rfl (lv_at hl 2 rfl) ?_
  refine x_calloi E h hl 155 155 hf xsub_lawM (fun r0 Sq0 hr => c_X9_saveSnapshot l D cy s00 _ (xs 155 S2)  r0 Sq0 hr) m_X9_saveSnapshot rfl rfl kw1792 rfl rfl (Nat.le_of_ble_eq_true rfl) ⟨Nat.le_of_ble_eq_true rfl, Nat.le_of_ble_eq_true rfl⟩ ⟨by omega, by omega⟩ dL_law_1251 (fun v3 S4 H locs hf h => ?_)
  refine x_br hf (lv_icmp_eq (tgt := 2957) E.1 E.2.1 dL_law_1254 (by decide)) (fun hf => ?_) (fun hf => ?_)
  · exact x_wid ⟨by omega, by omega⟩ (hk _ H locs ls hf h (lv_sub hl [0, 1, 2, 3, 4] rfl))
  · cases hf
set_option maxHeartbeats 4000000 in
set_option maxRecDepth 100000 in
theorem w_Lc17 {p : Program} {l : Launch} {e : Env} {s : State} {m : MethodId} {args : Array Value} {below : List Frame} {meth : Method} {c : Code} {D : va_G} {cy : Nat → ClassId} {s00 : State} {ad : Nat → Nat} {A : Nat → Prop} {Q : State → Prop} {b L : Nat} {sx : Nat → Int32} {rt : Option FieldType} (hX : va_X b L sx s s.heap) (hb : b < s.heap.size ∧ ¬ A b) (hT : l.stackTraces = false ∧ XDW s00) (hG : XG s00) {tE : xEnT} (hEn : XEn s00 tE) (hNc : XNc s00) {c0 m0 : Nat} (hc0 : c0 + 6 ≤ room_1.cells) (hm0 : m0 + 36 ≤ room_1.slots) {K : XS → Option Unit} {m4 : Int32} (E : XE p s m args meth c cL_law 9 RL rt D cy s00) (hk : ∀ (S1 : XS) (H : Heap) (locs : List Loc) (ls : Array Slot), K S1 = some () → XH D cy s00 shLaw ad S1 A s H locs → lv_has ls 9 [(4, .int m4), (3, .ref (ad 154)), (2, .ref (ad 155)), (1, .ref (ad 0)), (0, .ref b)] → W p l e room_1 s m args below meth c H locs (c0 + 6) (m0 + 36) Q (F0 m 2957 ls [])) (S : XS) (H : Heap) (locs : List Loc) (ls : Array Slot) (hf : f_Lc17 L sx K m4 S = some ()) (h : XH D cy s00 shLaw ad S A s H locs) (hl : lv_has ls 9 [(4, .int m4), (3, .ref (ad 154)), (2, .ref (ad 155)), (1, .ref (ad 0)), (0, .ref b)]) : W p l e room_1 s m args below meth c H locs c0 m0 Q (F0 m 1259 ls []) := by
  unfold f_Lc17 at hf
  refine lv_aload_n E.1 E.2.1 dL_law_1259 rfl (lv_at hl 3 rfl) ?_
  refine lv_aload_n E.1 E.2.1 dL_law_1260 rfl (lv_at hl 1 rfl) ?_
  refine x_callW E h hl hf xsub_lawW (fun r0 Sq0 hr => c_L_restoreSnapshot l D cy s00 _ hT hG hNc (xs 0 S) r0 Sq0 hr) mw_L_restoreSnapshot ⟨by decide +kernel, by decide +kernel, (by decide +kernel : (parseMethodDescriptor yL_restoreSnapshot.desc).map (fun d => d.parameters.length) = some 2)⟩ kw1100 rfl rfl (Nat.le_of_ble_eq_true rfl) ⟨Nat.le_of_ble_eq_true rfl, Nat.le_of_ble_eq_true rfl⟩ ⟨by omega, by omega⟩ dL_law_1261 (fun v1 S2 H locs hf h => ?_)
  refine lv_istore (lv' := [(5, .int v1), (4, .int m4), (3, .ref (ad 154)), (2, .ref (ad 155)), (1, .ref (ad 0)), (0, .ref b)]) E.1 E.2.1 dL_law_1264 hl (by decide) rfl (fun ls hl => ?_)
  refine lv_aload_n E.1 E.2.1 dL_law_1266 rfl (lv_at hl 3 rfl) ?_
  refine x_calloi E h hl 155 155 hf xsub_lawM (fun r0 Sq0 hr => c_X9_restoreSnapshot l D cy s00 _ (xs 155 S2)  r0 Sq0 hr) m_X9_restoreSnapshot rfl rfl kw1796 rfl rfl (Nat.le_of_ble_eq_true rfl) ⟨Nat.le_of_ble_eq_true rfl, Nat.le_of_ble_eq_true rfl⟩ ⟨by omega, by omega⟩ dL_law_1267 (fun v3 S4 H locs hf h => ?_)
  refine lv_istore (lv' := [(6, .int v3), (5, .int v1), (4, .int m4), (3, .ref (ad 154)), (2, .ref (ad 155)), (1, .ref (ad 0)), (0, .ref b)]) E.1 E.2.1 dL_law_1270 hl (by decide) rfl (fun ls hl => ?_)
  refine lv_aload_n E.1 E.2.1 dL_law_1272 rfl (lv_at hl 4 rfl) ?_
  refine x_callop E h hl 155 155 hf xsub_lawM (fun r0 hr => c_X9_thrown l D cy s00 _ (xs 155 S4)  r0 hr) m_X9_thrown rfl rfl kw1681 rfl rfl (Nat.le_of_ble_eq_true rfl) ⟨Nat.le_of_ble_eq_true rfl, Nat.le_of_ble_eq_true rfl⟩ ⟨by omega, by omega⟩ dL_law_1273 (fun v5 H locs hf h => ?_)
  refine lv_iload E.1 E.2.1 dL_law_1276 (lv_at hl 1 rfl) ?_
  refine x_br hf (lv_icmp_eq (tgt := 1283) E.1 E.2.1 dL_law_1278 (by decide)) (fun hf => ?_) (fun hf => ?_)
  · refine lv_iload E.1 E.2.1 dL_law_1283 (lv_at hl 1 rfl) ?_
    refine x_brn hf (lv_if_ne (tgt := 1300) E.1 E.2.1 dL_law_1285 (by decide)) (fun hf => ?_) (fun hf => ?_)
    · refine lv_goto (tgt := 2957) E.1 E.2.1 dL_law_1300 (by decide) ?_
      exact x_wid ⟨by omega, by omega⟩ (hk _ H locs ls hf h (lv_sub hl [2, 3, 4, 5, 6] rfl))
    · refine lv_aload_n E.1 E.2.1 dL_law_1288 rfl (lv_at hl 3 rfl) ?_
      refine lv_iconst (v := 0) E.1 E.2.1 dL_law_1289 (by decide) ?_
      refine x_lald1 E h 154 rfl dL_law_1290 ?_
      refine lv_iload E.1 E.2.1 dL_law_1291 (lv_at hl 0 rfl) ?_
      refine lv_i2l E.1 E.2.1 dL_law_1293 rfl ?_
      refine W.lcmp E.1 E.2.1 dL_law_1294 ?_
      refine x_bre (lg_cmp0 _ _) hf (lv_if_eq (tgt := 1300) E.1 E.2.1 dL_law_1295 (by decide)) (fun hf => ?_) (fun hf => ?_)
      · refine lv_goto (tgt := 2957) E.1 E.2.1 dL_law_1300 (by decide) ?_
        exact x_wid ⟨by omega, by omega⟩ (hk _ H locs ls hf h (lv_sub hl [2, 3, 4, 5, 6] rfl))
      · cases hf
  · cases hf
set_option maxHeartbeats 4000000 in
set_option maxRecDepth 100000 in
theorem w_Lc18 {p : Program} {l : Launch} {e : Env} {s : State} {m : MethodId} {args : Array Value} {below : List Frame} {meth : Method} {c : Code} {D : va_G} {cy : Nat → ClassId} {s00 : State} {ad : Nat → Nat} {A : Nat → Prop} {Q : State → Prop} {b L : Nat} {sx : Nat → Int32} {rt : Option FieldType} (hX : va_X b L sx s s.heap) (hb : b < s.heap.size ∧ ¬ A b) (hT : l.stackTraces = false ∧ XDW s00) (hG : XG s00) {tE : xEnT} (hEn : XEn s00 tE) (hNc : XNc s00) {c0 m0 : Nat} (hc0 : c0 + 6 ≤ room_1.cells) (hm0 : m0 + 36 ≤ room_1.slots) {K : XS → Option Unit} {m4 : Int32} (E : XE p s m args meth c cL_law 9 RL rt D cy s00) (hk : ∀ (S1 : XS) (H : Heap) (locs : List Loc) (ls : Array Slot), K S1 = some () → XH D cy s00 shLaw ad S1 A s H locs → lv_has ls 9 [(4, .int m4), (3, .ref (ad 154)), (2, .ref (ad 155)), (1, .ref (ad 0)), (0, .ref b)] → W p l e room_1 s m args below meth c H locs (c0 + 6) (m0 + 36) Q (F0 m 2957 ls [])) (S : XS) (H : Heap) (locs : List Loc) (ls : Array Slot) (hf : f_Lc18 L sx K m4 S = some ()) (h : XH D cy s00 shLaw ad S A s H locs) (hl : lv_has ls 9 [(4, .int m4), (3, .ref (ad 154)), (2, .ref (ad 155)), (1, .ref (ad 0)), (0, .ref b)]) : W p l e room_1 s m args below meth c H locs c0 m0 Q (F0 m 1303 ls []) := by
  unfold f_Lc18 at hf
  refine lv_aload_n E.1 E.2.1 dL_law_1303 rfl (lv_at hl 3 rfl) ?_
  refine x_callop E h hl 0 0 hf xsub_lawX (fun r0 hr => c_X8_scriptErrorKind l D cy s00 _ (xs 0 S)  r0 hr) m_X8_scriptErrorKind rfl rfl kw748 rfl rfl (Nat.le_of_ble_eq_true rfl) ⟨Nat.le_of_ble_eq_true rfl, Nat.le_of_ble_eq_true rfl⟩ ⟨by omega, by omega⟩ dL_law_1304 (fun v1 H locs hf h => ?_)
  refine lv_aload_n E.1 E.2.1 dL_law_1307 rfl (lv_at hl 2 rfl) ?_
  refine x_calloi E h hl 155 155 hf xsub_lawM (fun r0 Sq0 hr => c_X9_scriptErrorKind l D cy s00 _ (xs 155 S)  r0 Sq0 hr) m_X9_scriptErrorKind rfl rfl kw1800 rfl rfl (Nat.le_of_ble_eq_true rfl) ⟨Nat.le_of_ble_eq_true rfl, Nat.le_of_ble_eq_true rfl⟩ ⟨by omega, by omega⟩ dL_law_1308 (fun v2 S3 H locs hf h => ?_)
  refine x_br hf (lv_icmp_eq (tgt := 2957) E.1 E.2.1 dL_law_1311 (by decide)) (fun hf => ?_) (fun hf => ?_)
  · exact x_wid ⟨by omega, by omega⟩ (hk _ H locs ls hf h (lv_sub hl [0, 1, 2, 3, 4] rfl))
  · cases hf
set_option maxHeartbeats 4000000 in
set_option maxRecDepth 100000 in
theorem w_Lc19 {p : Program} {l : Launch} {e : Env} {s : State} {m : MethodId} {args : Array Value} {below : List Frame} {meth : Method} {c : Code} {D : va_G} {cy : Nat → ClassId} {s00 : State} {ad : Nat → Nat} {A : Nat → Prop} {Q : State → Prop} {b L : Nat} {sx : Nat → Int32} {rt : Option FieldType} (hX : va_X b L sx s s.heap) (hb : b < s.heap.size ∧ ¬ A b) (hT : l.stackTraces = false ∧ XDW s00) (hG : XG s00) {tE : xEnT} (hEn : XEn s00 tE) (hNc : XNc s00) {c0 m0 : Nat} (hc0 : c0 + 6 ≤ room_1.cells) (hm0 : m0 + 36 ≤ room_1.slots) {K : XS → Option Unit} {m4 : Int32} (E : XE p s m args meth c cL_law 9 RL rt D cy s00) (hk : ∀ (S1 : XS) (H : Heap) (locs : List Loc) (ls : Array Slot), K S1 = some () → XH D cy s00 shLaw ad S1 A s H locs → lv_has ls 9 [(4, .int m4), (3, .ref (ad 154)), (2, .ref (ad 155)), (1, .ref (ad 0)), (0, .ref b)] → W p l e room_1 s m args below meth c H locs (c0 + 6) (m0 + 36) Q (F0 m 2957 ls [])) (S : XS) (H : Heap) (locs : List Loc) (ls : Array Slot) (hf : f_Lc19 L sx K m4 S = some ()) (h : XH D cy s00 shLaw ad S A s H locs) (hl : lv_has ls 9 [(4, .int m4), (3, .ref (ad 154)), (2, .ref (ad 155)), (1, .ref (ad 0)), (0, .ref b)]) : W p l e room_1 s m args below meth c H locs c0 m0 Q (F0 m 1316 ls []) := by
  unfold f_Lc19 at hf
  refine lv_aload_n E.1 E.2.1 dL_law_1316 rfl (lv_at hl 3 rfl) ?_
  refine x_callop E h hl 0 0 hf xsub_lawX (fun r0 hr => c_X8_scriptErrorOffset l D cy s00 _ (xs 0 S)  r0 hr) m_X8_scriptErrorOffset rfl rfl kw752 rfl rfl (Nat.le_of_ble_eq_true rfl) ⟨Nat.le_of_ble_eq_true rfl, Nat.le_of_ble_eq_true rfl⟩ ⟨by omega, by omega⟩ dL_law_1317 (fun v1 H locs hf h => ?_)
  refine lv_aload_n E.1 E.2.1 dL_law_1320 rfl (lv_at hl 2 rfl) ?_
  refine x_calloi E h hl 155 155 hf xsub_lawM (fun r0 Sq0 hr => c_X9_scriptErrorOffset l D cy s00 _ (xs 155 S)  r0 Sq0 hr) m_X9_scriptErrorOffset rfl rfl kw1804 rfl rfl (Nat.le_of_ble_eq_true rfl) ⟨Nat.le_of_ble_eq_true rfl, Nat.le_of_ble_eq_true rfl⟩ ⟨by omega, by omega⟩ dL_law_1321 (fun v2 S3 H locs hf h => ?_)
  refine x_br hf (lv_icmp_eq (tgt := 2957) E.1 E.2.1 dL_law_1324 (by decide)) (fun hf => ?_) (fun hf => ?_)
  · exact x_wid ⟨by omega, by omega⟩ (hk _ H locs ls hf h (lv_sub hl [0, 1, 2, 3, 4] rfl))
  · cases hf
set_option maxHeartbeats 4000000 in
set_option maxRecDepth 100000 in
theorem w_Lc20 {p : Program} {l : Launch} {e : Env} {s : State} {m : MethodId} {args : Array Value} {below : List Frame} {meth : Method} {c : Code} {D : va_G} {cy : Nat → ClassId} {s00 : State} {ad : Nat → Nat} {A : Nat → Prop} {Q : State → Prop} {b L : Nat} {sx : Nat → Int32} {rt : Option FieldType} (hX : va_X b L sx s s.heap) (hb : b < s.heap.size ∧ ¬ A b) (hT : l.stackTraces = false ∧ XDW s00) (hG : XG s00) {tE : xEnT} (hEn : XEn s00 tE) (hNc : XNc s00) {c0 m0 : Nat} (hc0 : c0 + 6 ≤ room_1.cells) (hm0 : m0 + 36 ≤ room_1.slots) {K : XS → Option Unit} {m4 : Int32} (E : XE p s m args meth c cL_law 9 RL rt D cy s00) (hk : ∀ (S1 : XS) (H : Heap) (locs : List Loc) (ls : Array Slot), K S1 = some () → XH D cy s00 shLaw ad S1 A s H locs → lv_has ls 9 [(4, .int m4), (3, .ref (ad 154)), (2, .ref (ad 155)), (1, .ref (ad 0)), (0, .ref b)] → W p l e room_1 s m args below meth c H locs (c0 + 6) (m0 + 36) Q (F0 m 2957 ls [])) (S : XS) (H : Heap) (locs : List Loc) (ls : Array Slot) (hf : f_Lc20 L sx K m4 S = some ()) (h : XH D cy s00 shLaw ad S A s H locs) (hl : lv_has ls 9 [(4, .int m4), (3, .ref (ad 154)), (2, .ref (ad 155)), (1, .ref (ad 0)), (0, .ref b)]) : W p l e room_1 s m args below meth c H locs c0 m0 Q (F0 m 1329 ls []) := by
  unfold f_Lc20 at hf
  refine lv_aload_n E.1 E.2.1 dL_law_1329 rfl (lv_at hl 3 rfl) ?_
  refine x_callop E h hl 0 0 hf xsub_lawX (fun r0 hr => c_X8_chimneyCount l D cy s00 _ (xs 0 S)  r0 hr) m_X8_chimneyCount rfl rfl kw756 rfl rfl (Nat.le_of_ble_eq_true rfl) ⟨Nat.le_of_ble_eq_true rfl, Nat.le_of_ble_eq_true rfl⟩ ⟨by omega, by omega⟩ dL_law_1330 (fun v1 H locs hf h => ?_)
  refine lv_aload_n E.1 E.2.1 dL_law_1333 rfl (lv_at hl 2 rfl) ?_
  refine x_calloi E h hl 155 155 hf xsub_lawM (fun r0 Sq0 hr => c_X9_chimneyCount l D cy s00 _ (xs 155 S)  r0 Sq0 hr) m_X9_chimneyCount rfl rfl kw1808 rfl rfl (Nat.le_of_ble_eq_true rfl) ⟨Nat.le_of_ble_eq_true rfl, Nat.le_of_ble_eq_true rfl⟩ ⟨by omega, by omega⟩ dL_law_1334 (fun v2 S3 H locs hf h => ?_)
  refine x_br hf (lv_icmp_eq (tgt := 2957) E.1 E.2.1 dL_law_1337 (by decide)) (fun hf => ?_) (fun hf => ?_)
  · exact x_wid ⟨by omega, by omega⟩ (hk _ H locs ls hf h (lv_sub hl [0, 1, 2, 3, 4] rfl))
  · cases hf
