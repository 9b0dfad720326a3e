theorem k_1377 : Cond.fieldLink RX11 369 RX11 "nHasRain" "Z" ∈ BIG := mB (List.mem_of_getElem? (i := 1377) (by decide +kernel)) rfl
theorem k_1378 : Cond.fieldLink RX11 375 RX11 "nHasDraw" "Z" ∈ BIG := mB (List.mem_of_getElem? (i := 1378) (by decide +kernel)) rfl
theorem k_1379 : Cond.fieldLink RX11 93 RX11 "now" "[I" ∈ BIG := mB (List.mem_of_getElem? (i := 1379) (by decide +kernel)) rfl
theorem k_1380 : Cond.fieldLink RX11 96 RX11 "air" "[I" ∈ BIG := mB (List.mem_of_getElem? (i := 1380) (by decide +kernel)) rfl
theorem k_1381 : Cond.fieldLink RX11 99 RX11 "were" "[I" ∈ BIG := mB (List.mem_of_getElem? (i := 1381) (by decide +kernel)) rfl
theorem k_1382 : Cond.fieldLink RX11 405 RX11 "acts" "I" ∈ BIG := mB (List.mem_of_getElem? (i := 1382) (by decide +kernel)) rfl
theorem k_1383 : Cond.fieldLink RX11 408 RX11 "undone" "I" ∈ BIG := mB (List.mem_of_getElem? (i := 1383) (by decide +kernel)) rfl
theorem k_1384 : Cond.fieldLink RX11 102 RX11 "lies" "[I" ∈ BIG := mB (List.mem_of_getElem? (i := 1384) (by decide +kernel)) rfl
theorem k_1385 : Cond.fieldLink RX11 105 RX11 "row" "[I" ∈ BIG := mB (List.mem_of_getElem? (i := 1385) (by decide +kernel)) rfl
theorem k_1386 : Cond.fieldLink RX11 108 RX11 "ills" "[I" ∈ BIG := mB (List.mem_of_getElem? (i := 1386) (by decide +kernel)) rfl
theorem k_1387 : Cond.fieldLink RX11 414 RX11 "lain" "I" ∈ BIG := mB (List.mem_of_getElem? (i := 1387) (by decide +kernel)) rfl
theorem k_1388 : Cond.fieldLink RX11 111 RX11 "lengths" "[I" ∈ BIG := mB (List.mem_of_getElem? (i := 1388) (by decide +kernel)) rfl
theorem k_1389 : Cond.fieldLink RX11 114 RX11 "sightDays" "[I" ∈ BIG := mB (List.mem_of_getElem? (i := 1389) (by decide +kernel)) rfl
theorem k_1390 : Cond.fieldLink RX11 117 RX11 "sightTold" "[I" ∈ BIG := mB (List.mem_of_getElem? (i := 1390) (by decide +kernel)) rfl
theorem k_1391 : Cond.fieldLink RX11 120 RX11 "sightUntold" "[I" ∈ BIG := mB (List.mem_of_getElem? (i := 1391) (by decide +kernel)) rfl
theorem k_1392 : Cond.fieldLink RX11 123 RX11 "sightIs" "[Z" ∈ BIG := mB (List.mem_of_getElem? (i := 1392) (by decide +kernel)) rfl
theorem k_1393 : Cond.fieldLink RX11 411 RX11 "sights" "I" ∈ BIG := mB (List.mem_of_getElem? (i := 1393) (by decide +kernel)) rfl
theorem k_1394 : Cond.fieldLink RX11 527 RX11 "time" "I" ∈ BIG := mB (List.mem_of_getElem? (i := 1394) (by decide +kernel)) rfl
theorem k_1395 : Cond.fieldLink RX11 127 RX11 "was" "[Z" ∈ BIG := mB (List.mem_of_getElem? (i := 1395) (by decide +kernel)) rfl
theorem k_1396 : Cond.fieldLink RX11 130 RX11 "isFit" "[Z" ∈ BIG := mB (List.mem_of_getElem? (i := 1396) (by decide +kernel)) rfl
theorem k_1397 : Cond.fieldLink RX11 133 RX11 "hasBox" "[Z" ∈ BIG := mB (List.mem_of_getElem? (i := 1397) (by decide +kernel)) rfl
theorem k_1398 : Cond.fieldLink RX11 136 RX11 "boxes" "[I" ∈ BIG := mB (List.mem_of_getElem? (i := 1398) (by decide +kernel)) rfl
theorem k_1558 : Cond.arrayClass .long ∈ BIG := mB (List.mem_of_getElem? (i := 1558) (by decide +kernel)) rfl
theorem k_1559 : Cond.methodLink RL 17 yX11_feed ∈ BIG := mB (List.mem_of_getElem? (i := 1559) (by decide +kernel)) rfl
theorem k_1560 : Cond.instanceMethod yX11_feed ∈ BIG := mB (List.mem_of_getElem? (i := 1560) (by decide +kernel)) rfl
theorem k_1561 : Cond.selects RX11 yX11_feed yX11_feed ∈ BIG := mB (List.mem_of_getElem? (i := 1561) (by decide +kernel)) rfl
theorem k_1562 : Cond.code yX11_feed cX11_feed 6 (some .int) ∈ BIG := mB (List.mem_of_getElem? (i := 1562) (by decide +kernel)) rfl
theorem k_1563 : Cond.methodLink RX11 142 yX11_four ∈ BIG := mB (List.mem_of_getElem? (i := 1563) (by decide +kernel)) rfl
theorem k_1565 : Cond.instanceMethod yX11_four ∈ BIG := mB (List.mem_of_getElem? (i := 1565) (by decide +kernel)) rfl
theorem k_1566 : Cond.code yX11_four cX11_four 3 none ∈ BIG := mB (List.mem_of_getElem? (i := 1566) (by decide +kernel)) rfl
theorem k_1567 : Cond.methodLink RL 22 yX11_end ∈ BIG := mB (List.mem_of_getElem? (i := 1567) (by decide +kernel)) rfl
theorem k_1568 : Cond.instanceMethod yX11_end ∈ BIG := mB (List.mem_of_getElem? (i := 1568) (by decide +kernel)) rfl
theorem k_1569 : Cond.selects RX11 yX11_end yX11_end ∈ BIG := mB (List.mem_of_getElem? (i := 1569) (by decide +kernel)) rfl
theorem k_1570 : Cond.code yX11_end cX11_end 2 (some .int) ∈ BIG := mB (List.mem_of_getElem? (i := 1570) (by decide +kernel)) rfl
theorem k_1571 : Cond.methodLink RL 27 yX11_regiment ∈ BIG := mB (List.mem_of_getElem? (i := 1571) (by decide +kernel)) rfl
theorem k_1572 : Cond.instanceMethod yX11_regiment ∈ BIG := mB (List.mem_of_getElem? (i := 1572) (by decide +kernel)) rfl
theorem k_1573 : Cond.selects RX11 yX11_regiment yX11_regiment ∈ BIG := mB (List.mem_of_getElem? (i := 1573) (by decide +kernel)) rfl
theorem k_1574 : Cond.code yX11_regiment cX11_regiment 2 (some .int) ∈ BIG := mB (List.mem_of_getElem? (i := 1574) (by decide +kernel)) rfl
theorem k_1575 : Cond.methodLink RX11 384 yX11_readAll ∈ BIG := mB (List.mem_of_getElem? (i := 1575) (by decide +kernel)) rfl
theorem k_1577 : Cond.instanceMethod yX11_readAll ∈ BIG := mB (List.mem_of_getElem? (i := 1577) (by decide +kernel)) rfl
theorem k_1578 : Cond.code yX11_readAll cX11_readAll 1 none ∈ BIG := mB (List.mem_of_getElem? (i := 1578) (by decide +kernel)) rfl
theorem k_1579 : Cond.methodLink RX11 235 yX11_token ∈ BIG := mB (List.mem_of_getElem? (i := 1579) (by decide +kernel)) rfl
theorem k_1581 : Cond.instanceMethod yX11_token ∈ BIG := mB (List.mem_of_getElem? (i := 1581) (by decide +kernel)) rfl
theorem k_1582 : Cond.code yX11_token cX11_token 3 none ∈ BIG := mB (List.mem_of_getElem? (i := 1582) (by decide +kernel)) rfl
theorem k_1583 : Cond.methodLink RX11 152 yX11_here ∈ BIG := mB (List.mem_of_getElem? (i := 1583) (by decide +kernel)) rfl
theorem k_1585 : Cond.instanceMethod yX11_here ∈ BIG := mB (List.mem_of_getElem? (i := 1585) (by decide +kernel)) rfl
theorem k_1586 : Cond.code yX11_here cX11_here 2 (some .int) ∈ BIG := mB (List.mem_of_getElem? (i := 1586) (by decide +kernel)) rfl
theorem k_1716 : Cond.methodLink RX11 399 yX11_begin ∈ BIG := mB (List.mem_of_getElem? (i := 1716) (by decide +kernel)) rfl
theorem k_1718 : Cond.instanceMethod yX11_begin ∈ BIG := mB (List.mem_of_getElem? (i := 1718) (by decide +kernel)) rfl
theorem k_1719 : Cond.code yX11_begin cX11_begin 2 none ∈ BIG := mB (List.mem_of_getElem? (i := 1719) (by decide +kernel)) rfl
theorem k_1720 : Cond.methodLink RX11 402 yX11_keepAir ∈ BIG := mB (List.mem_of_getElem? (i := 1720) (by decide +kernel)) rfl
theorem k_1722 : Cond.instanceMethod yX11_keepAir ∈ BIG := mB (List.mem_of_getElem? (i := 1722) (by decide +kernel)) rfl
theorem k_1723 : Cond.code yX11_keepAir cX11_keepAir 2 none ∈ BIG := mB (List.mem_of_getElem? (i := 1723) (by decide +kernel)) rfl
theorem k_1724 : Cond.methodLink RL 31 yX11_fault ∈ BIG := mB (List.mem_of_getElem? (i := 1724) (by decide +kernel)) rfl
theorem k_1725 : Cond.instanceMethod yX11_fault ∈ BIG := mB (List.mem_of_getElem? (i := 1725) (by decide +kernel)) rfl
theorem k_1726 : Cond.selects RX11 yX11_fault yX11_fault ∈ BIG := mB (List.mem_of_getElem? (i := 1726) (by decide +kernel)) rfl
theorem k_1727 : Cond.code yX11_fault cX11_fault 2 (some .int) ∈ BIG := mB (List.mem_of_getElem? (i := 1727) (by decide +kernel)) rfl
theorem k_1728 : Cond.methodLink RL 36 yX11_man ∈ BIG := mB (List.mem_of_getElem? (i := 1728) (by decide +kernel)) rfl
theorem k_1729 : Cond.instanceMethod yX11_man ∈ BIG := mB (List.mem_of_getElem? (i := 1729) (by decide +kernel)) rfl
theorem k_1730 : Cond.selects RX11 yX11_man yX11_man ∈ BIG := mB (List.mem_of_getElem? (i := 1730) (by decide +kernel)) rfl
theorem k_1731 : Cond.code yX11_man cX11_man 3 (some .int) ∈ BIG := mB (List.mem_of_getElem? (i := 1731) (by decide +kernel)) rfl
theorem k_1732 : Cond.methodLink RX11 446 yX11_isMan ∈ BIG := mB (List.mem_of_getElem? (i := 1732) (by decide +kernel)) rfl
theorem k_1734 : Cond.instanceMethod yX11_isMan ∈ BIG := mB (List.mem_of_getElem? (i := 1734) (by decide +kernel)) rfl
theorem k_1735 : Cond.code yX11_isMan cX11_isMan 2 (some .boolean) ∈ BIG := mB (List.mem_of_getElem? (i := 1735) (by decide +kernel)) rfl
theorem k_1736 : Cond.methodLink RX11 417 yX11_isIn ∈ BIG := mB (List.mem_of_getElem? (i := 1736) (by decide +kernel)) rfl
theorem k_1737 : Cond.static yX11_isIn ∈ BIG := mB (List.mem_of_getElem? (i := 1737) (by decide +kernel)) rfl
theorem k_1738 : Cond.code yX11_isIn cX11_isIn 3 (some .boolean) ∈ BIG := mB (List.mem_of_getElem? (i := 1738) (by decide +kernel)) rfl
theorem k_1739 : Cond.methodLink RX11 449 yX11_fill ∈ BIG := mB (List.mem_of_getElem? (i := 1739) (by decide +kernel)) rfl
theorem k_1741 : Cond.instanceMethod yX11_fill ∈ BIG := mB (List.mem_of_getElem? (i := 1741) (by decide +kernel)) rfl
theorem k_1742 : Cond.code yX11_fill cX11_fill 2 none ∈ BIG := mB (List.mem_of_getElem? (i := 1742) (by decide +kernel)) rfl
theorem k_1767 : Cond.methodLink RL 40 yX11_coat ∈ BIG := mB (List.mem_of_getElem? (i := 1767) (by decide +kernel)) rfl
theorem k_1768 : Cond.instanceMethod yX11_coat ∈ BIG := mB (List.mem_of_getElem? (i := 1768) (by decide +kernel)) rfl
theorem k_1769 : Cond.selects RX11 yX11_coat yX11_coat ∈ BIG := mB (List.mem_of_getElem? (i := 1769) (by decide +kernel)) rfl
theorem k_1770 : Cond.code yX11_coat cX11_coat 3 (some .int) ∈ BIG := mB (List.mem_of_getElem? (i := 1770) (by decide +kernel)) rfl
theorem k_1771 : Cond.methodLink RX11 455 yX11_isCoat ∈ BIG := mB (List.mem_of_getElem? (i := 1771) (by decide +kernel)) rfl
theorem k_1773 : Cond.instanceMethod yX11_isCoat ∈ BIG := mB (List.mem_of_getElem? (i := 1773) (by decide +kernel)) rfl
theorem k_1774 : Cond.code yX11_isCoat cX11_isCoat 2 (some .boolean) ∈ BIG := mB (List.mem_of_getElem? (i := 1774) (by decide +kernel)) rfl
theorem k_1779 : Cond.methodLink RL 44 yX11_misfit ∈ BIG := mB (List.mem_of_getElem? (i := 1779) (by decide +kernel)) rfl
theorem k_1780 : Cond.instanceMethod yX11_misfit ∈ BIG := mB (List.mem_of_getElem? (i := 1780) (by decide +kernel)) rfl
theorem k_1781 : Cond.selects RX11 yX11_misfit yX11_misfit ∈ BIG := mB (List.mem_of_getElem? (i := 1781) (by decide +kernel)) rfl
theorem k_1782 : Cond.code yX11_misfit cX11_misfit 3 (some .int) ∈ BIG := mB (List.mem_of_getElem? (i := 1782) (by decide +kernel)) rfl
theorem k_1783 : Cond.methodLink RL 48 yX11_day ∈ BIG := mB (List.mem_of_getElem? (i := 1783) (by decide +kernel)) rfl
theorem k_1784 : Cond.instanceMethod yX11_day ∈ BIG := mB (List.mem_of_getElem? (i := 1784) (by decide +kernel)) rfl
theorem k_1785 : Cond.selects RX11 yX11_day yX11_day ∈ BIG := mB (List.mem_of_getElem? (i := 1785) (by decide +kernel)) rfl
theorem k_1786 : Cond.code yX11_day cX11_day 3 (some .int) ∈ BIG := mB (List.mem_of_getElem? (i := 1786) (by decide +kernel)) rfl
theorem k_1787 : Cond.methodLink RX11 458 yX11_act ∈ BIG := mB (List.mem_of_getElem? (i := 1787) (by decide +kernel)) rfl
theorem k_1789 : Cond.instanceMethod yX11_act ∈ BIG := mB (List.mem_of_getElem? (i := 1789) (by decide +kernel)) rfl
theorem k_1790 : Cond.code yX11_act cX11_act 2 none ∈ BIG := mB (List.mem_of_getElem? (i := 1790) (by decide +kernel)) rfl
theorem k_1791 : Cond.methodLink RX11 461 yX11_drawRain ∈ BIG := mB (List.mem_of_getElem? (i := 1791) (by decide +kernel)) rfl
theorem k_1793 : Cond.instanceMethod yX11_drawRain ∈ BIG := mB (List.mem_of_getElem? (i := 1793) (by decide +kernel)) rfl
theorem k_1794 : Cond.code yX11_drawRain cX11_drawRain 1 (some .boolean) ∈ BIG := mB (List.mem_of_getElem? (i := 1794) (by decide +kernel)) rfl
theorem k_1795 : Cond.methodLink RX11 464 yX11_goDay ∈ BIG := mB (List.mem_of_getElem? (i := 1795) (by decide +kernel)) rfl
theorem k_1797 : Cond.instanceMethod yX11_goDay ∈ BIG := mB (List.mem_of_getElem? (i := 1797) (by decide +kernel)) rfl
theorem k_1798 : Cond.code yX11_goDay cX11_goDay 4 (some .int) ∈ BIG := mB (List.mem_of_getElem? (i := 1798) (by decide +kernel)) rfl
theorem k_1805 : Cond.methodLink RX11 440 yX11_wearers ∈ BIG := mB (List.mem_of_getElem? (i := 1805) (by decide +kernel)) rfl
theorem k_1807 : Cond.instanceMethod yX11_wearers ∈ BIG := mB (List.mem_of_getElem? (i := 1807) (by decide +kernel)) rfl
theorem k_1808 : Cond.code yX11_wearers cX11_wearers 3 (some .int) ∈ BIG := mB (List.mem_of_getElem? (i := 1808) (by decide +kernel)) rfl
theorem k_1809 : Cond.methodLink RX11 443 yX11_fittedOnes ∈ BIG := mB (List.mem_of_getElem? (i := 1809) (by decide +kernel)) rfl
theorem k_1811 : Cond.instanceMethod yX11_fittedOnes ∈ BIG := mB (List.mem_of_getElem? (i := 1811) (by decide +kernel)) rfl
theorem k_1812 : Cond.code yX11_fittedOnes cX11_fittedOnes 3 (some .int) ∈ BIG := mB (List.mem_of_getElem? (i := 1812) (by decide +kernel)) rfl
theorem k_1817 : Cond.methodLink RL 52 yX11_don ∈ BIG := mB (List.mem_of_getElem? (i := 1817) (by decide +kernel)) rfl
theorem k_1818 : Cond.instanceMethod yX11_don ∈ BIG := mB (List.mem_of_getElem? (i := 1818) (by decide +kernel)) rfl
theorem k_1819 : Cond.selects RX11 yX11_don yX11_don ∈ BIG := mB (List.mem_of_getElem? (i := 1819) (by decide +kernel)) rfl
theorem k_1820 : Cond.code yX11_don cX11_don 4 (some .int) ∈ BIG := mB (List.mem_of_getElem? (i := 1820) (by decide +kernel)) rfl
theorem k_1821 : Cond.methodLink RL 56 yX11_doff ∈ BIG := mB (List.mem_of_getElem? (i := 1821) (by decide +kernel)) rfl
theorem k_1822 : Cond.instanceMethod yX11_doff ∈ BIG := mB (List.mem_of_getElem? (i := 1822) (by decide +kernel)) rfl
theorem k_1823 : Cond.selects RX11 yX11_doff yX11_doff ∈ BIG := mB (List.mem_of_getElem? (i := 1823) (by decide +kernel)) rfl
theorem k_1824 : Cond.code yX11_doff cX11_doff 3 (some .int) ∈ BIG := mB (List.mem_of_getElem? (i := 1824) (by decide +kernel)) rfl
theorem k_1825 : Cond.methodLink RL 60 yX11_letout ∈ BIG := mB (List.mem_of_getElem? (i := 1825) (by decide +kernel)) rfl
theorem k_1826 : Cond.instanceMethod yX11_letout ∈ BIG := mB (List.mem_of_getElem? (i := 1826) (by decide +kernel)) rfl
theorem k_1827 : Cond.selects RX11 yX11_letout yX11_letout ∈ BIG := mB (List.mem_of_getElem? (i := 1827) (by decide +kernel)) rfl
theorem k_1828 : Cond.code yX11_letout cX11_letout 3 (some .int) ∈ BIG := mB (List.mem_of_getElem? (i := 1828) (by decide +kernel)) rfl
theorem k_1829 : Cond.methodLink RL 64 yX11_takein ∈ BIG := mB (List.mem_of_getElem? (i := 1829) (by decide +kernel)) rfl
theorem k_1830 : Cond.instanceMethod yX11_takein ∈ BIG := mB (List.mem_of_getElem? (i := 1830) (by decide +kernel)) rfl
theorem k_1831 : Cond.selects RX11 yX11_takein yX11_takein ∈ BIG := mB (List.mem_of_getElem? (i := 1831) (by decide +kernel)) rfl
theorem k_1832 : Cond.code yX11_takein cX11_takein 3 (some .int) ∈ BIG := mB (List.mem_of_getElem? (i := 1832) (by decide +kernel)) rfl
theorem k_1833 : Cond.methodLink RL 68 yX11_hem ∈ BIG := mB (List.mem_of_getElem? (i := 1833) (by decide +kernel)) rfl
theorem k_1834 : Cond.instanceMethod yX11_hem ∈ BIG := mB (List.mem_of_getElem? (i := 1834) (by decide +kernel)) rfl
theorem k_1835 : Cond.selects RX11 yX11_hem yX11_hem ∈ BIG := mB (List.mem_of_getElem? (i := 1835) (by decide +kernel)) rfl
theorem k_1836 : Cond.code yX11_hem cX11_hem 3 (some .int) ∈ BIG := mB (List.mem_of_getElem? (i := 1836) (by decide +kernel)) rfl
theorem k_1837 : Cond.methodLink RL 72 yX11_turn ∈ BIG := mB (List.mem_of_getElem? (i := 1837) (by decide +kernel)) rfl
theorem k_1838 : Cond.instanceMethod yX11_turn ∈ BIG := mB (List.mem_of_getElem? (i := 1838) (by decide +kernel)) rfl
theorem k_1839 : Cond.selects RX11 yX11_turn yX11_turn ∈ BIG := mB (List.mem_of_getElem? (i := 1839) (by decide +kernel)) rfl
theorem k_1840 : Cond.code yX11_turn cX11_turn 3 (some .int) ∈ BIG := mB (List.mem_of_getElem? (i := 1840) (by decide +kernel)) rfl
theorem k_1841 : Cond.methodLink RL 77 yX11_undo ∈ BIG := mB (List.mem_of_getElem? (i := 1841) (by decide +kernel)) rfl
theorem k_1842 : Cond.instanceMethod yX11_undo ∈ BIG := mB (List.mem_of_getElem? (i := 1842) (by decide +kernel)) rfl
theorem k_1843 : Cond.selects RX11 yX11_undo yX11_undo ∈ BIG := mB (List.mem_of_getElem? (i := 1843) (by decide +kernel)) rfl
theorem k_1844 : Cond.code yX11_undo cX11_undo 1 (some .boolean) ∈ BIG := mB (List.mem_of_getElem? (i := 1844) (by decide +kernel)) rfl
theorem k_1849 : Cond.methodLink RL 81 yX11_redo ∈ BIG := mB (List.mem_of_getElem? (i := 1849) (by decide +kernel)) rfl
theorem k_1850 : Cond.instanceMethod yX11_redo ∈ BIG := mB (List.mem_of_getElem? (i := 1850) (by decide +kernel)) rfl
theorem k_1851 : Cond.selects RX11 yX11_redo yX11_redo ∈ BIG := mB (List.mem_of_getElem? (i := 1851) (by decide +kernel)) rfl
theorem k_1852 : Cond.code yX11_redo cX11_redo 1 (some .boolean) ∈ BIG := mB (List.mem_of_getElem? (i := 1852) (by decide +kernel)) rfl
theorem k_1853 : Cond.methodLink RL 86 yX11_will ∈ BIG := mB (List.mem_of_getElem? (i := 1853) (by decide +kernel)) rfl
theorem k_1854 : Cond.instanceMethod yX11_will ∈ BIG := mB (List.mem_of_getElem? (i := 1854) (by decide +kernel)) rfl
theorem k_1855 : Cond.selects RX11 yX11_will yX11_will ∈ BIG := mB (List.mem_of_getElem? (i := 1855) (by decide +kernel)) rfl
theorem k_1856 : Cond.code yX11_will cX11_will 5 (some .int) ∈ BIG := mB (List.mem_of_getElem? (i := 1856) (by decide +kernel)) rfl
theorem k_1857 : Cond.methodLink RL 90 yX11_out ∈ BIG := mB (List.mem_of_getElem? (i := 1857) (by decide +kernel)) rfl
theorem k_1858 : Cond.instanceMethod yX11_out ∈ BIG := mB (List.mem_of_getElem? (i := 1858) (by decide +kernel)) rfl
theorem k_1859 : Cond.selects RX11 yX11_out yX11_out ∈ BIG := mB (List.mem_of_getElem? (i := 1859) (by decide +kernel)) rfl
theorem k_1860 : Cond.code yX11_out cX11_out 3 (some .int) ∈ BIG := mB (List.mem_of_getElem? (i := 1860) (by decide +kernel)) rfl
theorem k_1861 : Cond.methodLink RL 162 yX11_rout ∈ BIG := mB (List.mem_of_getElem? (i := 1861) (by decide +kernel)) rfl
theorem k_1862 : Cond.instanceMethod yX11_rout ∈ BIG := mB (List.mem_of_getElem? (i := 1862) (by decide +kernel)) rfl
theorem k_1863 : Cond.selects RX11 yX11_rout yX11_rout ∈ BIG := mB (List.mem_of_getElem? (i := 1863) (by decide +kernel)) rfl
theorem k_1864 : Cond.code yX11_rout cX11_rout 2 (some .int) ∈ BIG := mB (List.mem_of_getElem? (i := 1864) (by decide +kernel)) rfl
theorem k_1865 : Cond.methodLink RL 94 yX11_fitted ∈ BIG := mB (List.mem_of_getElem? (i := 1865) (by decide +kernel)) rfl
theorem k_1866 : Cond.instanceMethod yX11_fitted ∈ BIG := mB (List.mem_of_getElem? (i := 1866) (by decide +kernel)) rfl
theorem k_1867 : Cond.selects RX11 yX11_fitted yX11_fitted ∈ BIG := mB (List.mem_of_getElem? (i := 1867) (by decide +kernel)) rfl
theorem k_1868 : Cond.code yX11_fitted cX11_fitted 1 (some .int) ∈ BIG := mB (List.mem_of_getElem? (i := 1868) (by decide +kernel)) rfl
theorem k_1869 : Cond.methodLink RL 98 yX11_dress ∈ BIG := mB (List.mem_of_getElem? (i := 1869) (by decide +kernel)) rfl
theorem k_1870 : Cond.instanceMethod yX11_dress ∈ BIG := mB (List.mem_of_getElem? (i := 1870) (by decide +kernel)) rfl
theorem k_1871 : Cond.selects RX11 yX11_dress yX11_dress ∈ BIG := mB (List.mem_of_getElem? (i := 1871) (by decide +kernel)) rfl
theorem k_1872 : Cond.code yX11_dress cX11_dress 7 (some .int) ∈ BIG := mB (List.mem_of_getElem? (i := 1872) (by decide +kernel)) rfl
theorem k_1873 : Cond.methodLink RX11 470 yX11_layIlls ∈ BIG := mB (List.mem_of_getElem? (i := 1873) (by decide +kernel)) rfl
theorem k_1875 : Cond.instanceMethod yX11_layIlls ∈ BIG := mB (List.mem_of_getElem? (i := 1875) (by decide +kernel)) rfl
theorem k_1876 : Cond.code yX11_layIlls cX11_layIlls 3 none ∈ BIG := mB (List.mem_of_getElem? (i := 1876) (by decide +kernel)) rfl
theorem k_1877 : Cond.methodLink RX11 473 yX11_power ∈ BIG := mB (List.mem_of_getElem? (i := 1877) (by decide +kernel)) rfl
theorem k_1878 : Cond.static yX11_power ∈ BIG := mB (List.mem_of_getElem? (i := 1878) (by decide +kernel)) rfl
theorem k_1879 : Cond.code yX11_power cX11_power 4 (some .int) ∈ BIG := mB (List.mem_of_getElem? (i := 1879) (by decide +kernel)) rfl
theorem k_1880 : Cond.methodLink RX11 476 yX11_layDress ∈ BIG := mB (List.mem_of_getElem? (i := 1880) (by decide +kernel)) rfl
theorem k_1882 : Cond.instanceMethod yX11_layDress ∈ BIG := mB (List.mem_of_getElem? (i := 1882) (by decide +kernel)) rfl
theorem k_1883 : Cond.code yX11_layDress cX11_layDress 7 (some .int) ∈ BIG := mB (List.mem_of_getElem? (i := 1883) (by decide +kernel)) rfl
theorem k_1884 : Cond.methodLink RX11 479 yX11_illOfRow ∈ BIG := mB (List.mem_of_getElem? (i := 1884) (by decide +kernel)) rfl
theorem k_1886 : Cond.instanceMethod yX11_illOfRow ∈ BIG := mB (List.mem_of_getElem? (i := 1886) (by decide +kernel)) rfl
theorem k_1887 : Cond.code yX11_illOfRow cX11_illOfRow 3 (some .int) ∈ BIG := mB (List.mem_of_getElem? (i := 1887) (by decide +kernel)) rfl
theorem k_1888 : Cond.methodLink RL 102 yX11_sewing ∈ BIG := mB (List.mem_of_getElem? (i := 1888) (by decide +kernel)) rfl
theorem k_1889 : Cond.instanceMethod yX11_sewing ∈ BIG := mB (List.mem_of_getElem? (i := 1889) (by decide +kernel)) rfl
theorem k_1890 : Cond.selects RX11 yX11_sewing yX11_sewing ∈ BIG := mB (List.mem_of_getElem? (i := 1890) (by decide +kernel)) rfl
theorem k_1891 : Cond.code yX11_sewing cX11_sewing 10 (some .int) ∈ BIG := mB (List.mem_of_getElem? (i := 1891) (by decide +kernel)) rfl
theorem k_1896 : Cond.methodLink RL 106 yX11_rota ∈ BIG := mB (List.mem_of_getElem? (i := 1896) (by decide +kernel)) rfl
theorem k_1897 : Cond.instanceMethod yX11_rota ∈ BIG := mB (List.mem_of_getElem? (i := 1897) (by decide +kernel)) rfl
theorem k_1898 : Cond.selects RX11 yX11_rota yX11_rota ∈ BIG := mB (List.mem_of_getElem? (i := 1898) (by decide +kernel)) rfl
theorem k_1899 : Cond.code yX11_rota cX11_rota 6 (some .int) ∈ BIG := mB (List.mem_of_getElem? (i := 1899) (by decide +kernel)) rfl
theorem k_1900 : Cond.methodLink RX11 486 yX11_members ∈ BIG := mB (List.mem_of_getElem? (i := 1900) (by decide +kernel)) rfl
theorem k_1901 : Cond.static yX11_members ∈ BIG := mB (List.mem_of_getElem? (i := 1901) (by decide +kernel)) rfl
theorem k_1902 : Cond.code yX11_members cX11_members 3 (some .int) ∈ BIG := mB (List.mem_of_getElem? (i := 1902) (by decide +kernel)) rfl
theorem k_1903 : Cond.methodLink RL 110 yX11_change ∈ BIG := mB (List.mem_of_getElem? (i := 1903) (by decide +kernel)) rfl
theorem k_1904 : Cond.instanceMethod yX11_change ∈ BIG := mB (List.mem_of_getElem? (i := 1904) (by decide +kernel)) rfl
theorem k_1905 : Cond.selects RX11 yX11_change yX11_change ∈ BIG := mB (List.mem_of_getElem? (i := 1905) (by decide +kernel)) rfl
theorem k_1906 : Cond.code yX11_change cX11_change 7 (some .int) ∈ BIG := mB (List.mem_of_getElem? (i := 1906) (by decide +kernel)) rfl
theorem k_1907 : Cond.methodLink RX11 489 yX11_fitted ∈ BIG := mB (List.mem_of_getElem? (i := 1907) (by decide +kernel)) rfl
theorem k_1908 : Cond.methodLink RL 114 yX11_front ∈ BIG := mB (List.mem_of_getElem? (i := 1908) (by decide +kernel)) rfl
theorem k_1909 : Cond.instanceMethod yX11_front ∈ BIG := mB (List.mem_of_getElem? (i := 1909) (by decide +kernel)) rfl
theorem k_1910 : Cond.selects RX11 yX11_front yX11_front ∈ BIG := mB (List.mem_of_getElem? (i := 1910) (by decide +kernel)) rfl
theorem k_1911 : Cond.code yX11_front cX11_front 6 (some .int) ∈ BIG := mB (List.mem_of_getElem? (i := 1911) (by decide +kernel)) rfl
theorem k_1912 : Cond.methodLink RX11 492 yX11_wideOf ∈ BIG := mB (List.mem_of_getElem? (i := 1912) (by decide +kernel)) rfl
theorem k_1914 : Cond.instanceMethod yX11_wideOf ∈ BIG := mB (List.mem_of_getElem? (i := 1914) (by decide +kernel)) rfl
theorem k_1915 : Cond.code yX11_wideOf cX11_wideOf 4 (some .int) ∈ BIG := mB (List.mem_of_getElem? (i := 1915) (by decide +kernel)) rfl
theorem k_1916 : Cond.methodLink RL 118 yX11_wings ∈ BIG := mB (List.mem_of_getElem? (i := 1916) (by decide +kernel)) rfl
theorem k_1917 : Cond.instanceMethod yX11_wings ∈ BIG := mB (List.mem_of_getElem? (i := 1917) (by decide +kernel)) rfl
theorem k_1918 : Cond.selects RX11 yX11_wings yX11_wings ∈ BIG := mB (List.mem_of_getElem? (i := 1918) (by decide +kernel)) rfl
theorem k_1919 : Cond.code yX11_wings cX11_wings 8 (some .int) ∈ BIG := mB (List.mem_of_getElem? (i := 1919) (by decide +kernel)) rfl
theorem k_1920 : Cond.methodLink RX11 495 yX11_plain ∈ BIG := mB (List.mem_of_getElem? (i := 1920) (by decide +kernel)) rfl
theorem k_1921 : Cond.static yX11_plain ∈ BIG := mB (List.mem_of_getElem? (i := 1921) (by decide +kernel)) rfl
theorem k_1922 : Cond.code yX11_plain cX11_plain 1 (some .int) ∈ BIG := mB (List.mem_of_getElem? (i := 1922) (by decide +kernel)) rfl
theorem k_1923 : Cond.methodLink RL 122 yX11_cloth ∈ BIG := mB (List.mem_of_getElem? (i := 1923) (by decide +kernel)) rfl
theorem k_1924 : Cond.instanceMethod yX11_cloth ∈ BIG := mB (List.mem_of_getElem? (i := 1924) (by decide +kernel)) rfl
theorem k_1925 : Cond.selects RX11 yX11_cloth yX11_cloth ∈ BIG := mB (List.mem_of_getElem? (i := 1925) (by decide +kernel)) rfl
theorem k_1926 : Cond.code yX11_cloth cX11_cloth 3 (some .int) ∈ BIG := mB (List.mem_of_getElem? (i := 1926) (by decide +kernel)) rfl
theorem k_1927 : Cond.constant RX11 498 1000000 ∈ BIG := mB (List.mem_of_getElem? (i := 1927) (by decide +kernel)) rfl
theorem k_1932 : Cond.methodLink RL 126 yX11_buttons ∈ BIG := mB (List.mem_of_getElem? (i := 1932) (by decide +kernel)) rfl
theorem k_1933 : Cond.instanceMethod yX11_buttons ∈ BIG := mB (List.mem_of_getElem? (i := 1933) (by decide +kernel)) rfl
theorem k_1934 : Cond.selects RX11 yX11_buttons yX11_buttons ∈ BIG := mB (List.mem_of_getElem? (i := 1934) (by decide +kernel)) rfl
theorem k_1935 : Cond.code yX11_buttons cX11_buttons 4 (some .int) ∈ BIG := mB (List.mem_of_getElem? (i := 1935) (by decide +kernel)) rfl
theorem k_1944 : Cond.methodLink RL 130 yX11_reach ∈ BIG := mB (List.mem_of_getElem? (i := 1944) (by decide +kernel)) rfl
theorem k_1945 : Cond.instanceMethod yX11_reach ∈ BIG := mB (List.mem_of_getElem? (i := 1945) (by decide +kernel)) rfl
theorem k_1946 : Cond.selects RX11 yX11_reach yX11_reach ∈ BIG := mB (List.mem_of_getElem? (i := 1946) (by decide +kernel)) rfl
theorem k_1947 : Cond.code yX11_reach cX11_reach 7 (some .int) ∈ BIG := mB (List.mem_of_getElem? (i := 1947) (by decide +kernel)) rfl
theorem k_1948 : Cond.methodLink RX11 511 yX11_freeCoats ∈ BIG := mB (List.mem_of_getElem? (i := 1948) (by decide +kernel)) rfl
theorem k_1950 : Cond.instanceMethod yX11_freeCoats ∈ BIG := mB (List.mem_of_getElem? (i := 1950) (by decide +kernel)) rfl
theorem k_1951 : Cond.code yX11_freeCoats cX11_freeCoats 3 (some .int) ∈ BIG := mB (List.mem_of_getElem? (i := 1951) (by decide +kernel)) rfl
theorem k_1960 : Cond.methodLink RL 134 yX11_turning ∈ BIG := mB (List.mem_of_getElem? (i := 1960) (by decide +kernel)) rfl
theorem k_1961 : Cond.instanceMethod yX11_turning ∈ BIG := mB (List.mem_of_getElem? (i := 1961) (by decide +kernel)) rfl
theorem k_1962 : Cond.selects RX11 yX11_turning yX11_turning ∈ BIG := mB (List.mem_of_getElem? (i := 1962) (by decide +kernel)) rfl
theorem k_1963 : Cond.code yX11_turning cX11_turning 5 (some .int) ∈ BIG := mB (List.mem_of_getElem? (i := 1963) (by decide +kernel)) rfl
theorem k_1964 : Cond.methodLink RL 138 yX11_rags ∈ BIG := mB (List.mem_of_getElem? (i := 1964) (by decide +kernel)) rfl
theorem k_1965 : Cond.instanceMethod yX11_rags ∈ BIG := mB (List.mem_of_getElem? (i := 1965) (by decide +kernel)) rfl
theorem k_1966 : Cond.selects RX11 yX11_rags yX11_rags ∈ BIG := mB (List.mem_of_getElem? (i := 1966) (by decide +kernel)) rfl
theorem k_1967 : Cond.code yX11_rags cX11_rags 3 (some .int) ∈ BIG := mB (List.mem_of_getElem? (i := 1967) (by decide +kernel)) rfl
theorem k_1972 : Cond.methodLink RL 142 yX11_naked ∈ BIG := mB (List.mem_of_getElem? (i := 1972) (by decide +kernel)) rfl
theorem k_1973 : Cond.instanceMethod yX11_naked ∈ BIG := mB (List.mem_of_getElem? (i := 1973) (by decide +kernel)) rfl
theorem k_1974 : Cond.selects RX11 yX11_naked yX11_naked ∈ BIG := mB (List.mem_of_getElem? (i := 1974) (by decide +kernel)) rfl
theorem k_1975 : Cond.code yX11_naked cX11_naked 3 (some .int) ∈ BIG := mB (List.mem_of_getElem? (i := 1975) (by decide +kernel)) rfl
theorem k_1976 : Cond.methodLink RL 146 yX11_popular ∈ BIG := mB (List.mem_of_getElem? (i := 1976) (by decide +kernel)) rfl
theorem k_1977 : Cond.instanceMethod yX11_popular ∈ BIG := mB (List.mem_of_getElem? (i := 1977) (by decide +kernel)) rfl
theorem k_1978 : Cond.selects RX11 yX11_popular yX11_popular ∈ BIG := mB (List.mem_of_getElem? (i := 1978) (by decide +kernel)) rfl
theorem k_1979 : Cond.code yX11_popular cX11_popular 2 (some .int) ∈ BIG := mB (List.mem_of_getElem? (i := 1979) (by decide +kernel)) rfl
theorem k_1980 : Cond.methodLink RL 150 yX11_law ∈ BIG := mB (List.mem_of_getElem? (i := 1980) (by decide +kernel)) rfl
theorem k_1981 : Cond.instanceMethod yX11_law ∈ BIG := mB (List.mem_of_getElem? (i := 1981) (by decide +kernel)) rfl
theorem k_1982 : Cond.selects RX11 yX11_law yX11_law ∈ BIG := mB (List.mem_of_getElem? (i := 1982) (by decide +kernel)) rfl
theorem k_1983 : Cond.code yX11_law cX11_law 4 (some .int) ∈ BIG := mB (List.mem_of_getElem? (i := 1983) (by decide +kernel)) rfl
theorem k_1988 : Cond.methodLink RL 154 yX11_ease ∈ BIG := mB (List.mem_of_getElem? (i := 1988) (by decide +kernel)) rfl
theorem k_1989 : Cond.instanceMethod yX11_ease ∈ BIG := mB (List.mem_of_getElem? (i := 1989) (by decide +kernel)) rfl
theorem k_1990 : Cond.selects RX11 yX11_ease yX11_ease ∈ BIG := mB (List.mem_of_getElem? (i := 1990) (by decide +kernel)) rfl
theorem k_1991 : Cond.code yX11_ease cX11_ease 3 (some .int) ∈ BIG := mB (List.mem_of_getElem? (i := 1991) (by decide +kernel)) rfl
theorem k_1992 : Cond.methodLink RL 158 yX11_breadth ∈ BIG := mB (List.mem_of_getElem? (i := 1992) (by decide +kernel)) rfl
theorem k_1993 : Cond.instanceMethod yX11_breadth ∈ BIG := mB (List.mem_of_getElem? (i := 1993) (by decide +kernel)) rfl
theorem k_1994 : Cond.selects RX11 yX11_breadth yX11_breadth ∈ BIG := mB (List.mem_of_getElem? (i := 1994) (by decide +kernel)) rfl
theorem k_1995 : Cond.code yX11_breadth cX11_breadth 1 (some .int) ∈ BIG := mB (List.mem_of_getElem? (i := 1995) (by decide +kernel)) rfl
theorem k_1996 : Cond.methodLink RL 166 yX11_odds ∈ BIG := mB (List.mem_of_getElem? (i := 1996) (by decide +kernel)) rfl
theorem k_1997 : Cond.instanceMethod yX11_odds ∈ BIG := mB (List.mem_of_getElem? (i := 1997) (by decide +kernel)) rfl
theorem k_1998 : Cond.selects RX11 yX11_odds yX11_odds ∈ BIG := mB (List.mem_of_getElem? (i := 1998) (by decide +kernel)) rfl
theorem k_1999 : Cond.code yX11_odds cX11_odds 6 (some .int) ∈ BIG := mB (List.mem_of_getElem? (i := 1999) (by decide +kernel)) rfl
theorem k_2000 : Cond.methodLink RX11 524 yX11_divisor ∈ BIG := mB (List.mem_of_getElem? (i := 2000) (by decide +kernel)) rfl
theorem k_2001 : Cond.static yX11_divisor ∈ BIG := mB (List.mem_of_getElem? (i := 2001) (by decide +kernel)) rfl
theorem k_2002 : Cond.code yX11_divisor cX11_divisor 5 (some .int) ∈ BIG := mB (List.mem_of_getElem? (i := 2002) (by decide +kernel)) rfl
theorem k_2003 : Cond.methodLink RL 170 yX11_lies ∈ BIG := mB (List.mem_of_getElem? (i := 2003) (by decide +kernel)) rfl
theorem k_2004 : Cond.instanceMethod yX11_lies ∈ BIG := mB (List.mem_of_getElem? (i := 2004) (by decide +kernel)) rfl
theorem k_2005 : Cond.selects RX11 yX11_lies yX11_lies ∈ BIG := mB (List.mem_of_getElem? (i := 2005) (by decide +kernel)) rfl
theorem k_2006 : Cond.code yX11_lies cX11_lies 2 (some .int) ∈ BIG := mB (List.mem_of_getElem? (i := 2006) (by decide +kernel)) rfl
theorem k_2007 : Cond.methodLink RL 175 yX11_seen ∈ BIG := mB (List.mem_of_getElem? (i := 2007) (by decide +kernel)) rfl
theorem k_2008 : Cond.instanceMethod yX11_seen ∈ BIG := mB (List.mem_of_getElem? (i := 2008) (by decide +kernel)) rfl
theorem k_2009 : Cond.selects RX11 yX11_seen yX11_seen ∈ BIG := mB (List.mem_of_getElem? (i := 2009) (by decide +kernel)) rfl
theorem k_2010 : Cond.code yX11_seen cX11_seen 3 (some .int) ∈ BIG := mB (List.mem_of_getElem? (i := 2010) (by decide +kernel)) rfl
theorem k_2011 : Cond.methodLink RL 180 yX11_untell ∈ BIG := mB (List.mem_of_getElem? (i := 2011) (by decide +kernel)) rfl
theorem k_2012 : Cond.instanceMethod yX11_untell ∈ BIG := mB (List.mem_of_getElem? (i := 2012) (by decide +kernel)) rfl
theorem k_2013 : Cond.selects RX11 yX11_untell yX11_untell ∈ BIG := mB (List.mem_of_getElem? (i := 2013) (by decide +kernel)) rfl
theorem k_2014 : Cond.code yX11_untell cX11_untell 2 (some .boolean) ∈ BIG := mB (List.mem_of_getElem? (i := 2014) (by decide +kernel)) rfl
theorem k_2015 : Cond.methodLink RL 184 yX11_later ∈ BIG := mB (List.mem_of_getElem? (i := 2015) (by decide +kernel)) rfl
theorem k_2016 : Cond.instanceMethod yX11_later ∈ BIG := mB (List.mem_of_getElem? (i := 2016) (by decide +kernel)) rfl
theorem k_2017 : Cond.selects RX11 yX11_later yX11_later ∈ BIG := mB (List.mem_of_getElem? (i := 2017) (by decide +kernel)) rfl
theorem k_2018 : Cond.code yX11_later cX11_later 2 (some .int) ∈ BIG := mB (List.mem_of_getElem? (i := 2018) (by decide +kernel)) rfl
theorem k_2019 : Cond.constant RX11 530 100000 ∈ BIG := mB (List.mem_of_getElem? (i := 2019) (by decide +kernel)) rfl
theorem k_2020 : Cond.methodLink RL 188 yX11_growths ∈ BIG := mB (List.mem_of_getElem? (i := 2020) (by decide +kernel)) rfl
theorem k_2021 : Cond.instanceMethod yX11_growths ∈ BIG := mB (List.mem_of_getElem? (i := 2021) (by decide +kernel)) rfl
theorem k_2022 : Cond.selects RX11 yX11_growths yX11_growths ∈ BIG := mB (List.mem_of_getElem? (i := 2022) (by decide +kernel)) rfl
theorem k_2023 : Cond.code yX11_growths cX11_growths 2 (some .int) ∈ BIG := mB (List.mem_of_getElem? (i := 2023) (by decide +kernel)) rfl
theorem k_2024 : Cond.methodLink RX11 534 yX11_layGrowths ∈ BIG := mB (List.mem_of_getElem? (i := 2024) (by decide +kernel)) rfl
theorem k_2026 : Cond.instanceMethod yX11_layGrowths ∈ BIG := mB (List.mem_of_getElem? (i := 2026) (by decide +kernel)) rfl
theorem k_2027 : Cond.code yX11_layGrowths cX11_layGrowths 5 (some .int) ∈ BIG := mB (List.mem_of_getElem? (i := 2027) (by decide +kernel)) rfl
theorem k_2032 : Cond.methodLink RL 192 yX11_sure ∈ BIG := mB (List.mem_of_getElem? (i := 2032) (by decide +kernel)) rfl
theorem k_2033 : Cond.instanceMethod yX11_sure ∈ BIG := mB (List.mem_of_getElem? (i := 2033) (by decide +kernel)) rfl
theorem k_2034 : Cond.selects RX11 yX11_sure yX11_sure ∈ BIG := mB (List.mem_of_getElem? (i := 2034) (by decide +kernel)) rfl
theorem k_2035 : Cond.code yX11_sure cX11_sure 5 (some .int) ∈ BIG := mB (List.mem_of_getElem? (i := 2035) (by decide +kernel)) rfl
theorem k_2036 : Cond.methodLink RL 196 yX11_ask ∈ BIG := mB (List.mem_of_getElem? (i := 2036) (by decide +kernel)) rfl
theorem k_2037 : Cond.instanceMethod yX11_ask ∈ BIG := mB (List.mem_of_getElem? (i := 2037) (by decide +kernel)) rfl
theorem k_2038 : Cond.selects RX11 yX11_ask yX11_ask ∈ BIG := mB (List.mem_of_getElem? (i := 2038) (by decide +kernel)) rfl
theorem k_2039 : Cond.code yX11_ask cX11_ask 6 (some .int) ∈ BIG := mB (List.mem_of_getElem? (i := 2039) (by decide +kernel)) rfl
theorem k_2044 : Cond.methodLink RL 200 yX11_image ∈ BIG := mB (List.mem_of_getElem? (i := 2044) (by decide +kernel)) rfl
theorem k_2045 : Cond.instanceMethod yX11_image ∈ BIG := mB (List.mem_of_getElem? (i := 2045) (by decide +kernel)) rfl
theorem k_2046 : Cond.selects RX11 yX11_image yX11_image ∈ BIG := mB (List.mem_of_getElem? (i := 2046) (by decide +kernel)) rfl
theorem k_2047 : Cond.code yX11_image cX11_image 3 (some .int) ∈ BIG := mB (List.mem_of_getElem? (i := 2047) (by decide +kernel)) rfl
theorem k_2048 : Cond.methodLink RX11 540 yX11_isBox ∈ BIG := mB (List.mem_of_getElem? (i := 2048) (by decide +kernel)) rfl
theorem k_2049 : Cond.static yX11_isBox ∈ BIG := mB (List.mem_of_getElem? (i := 2049) (by decide +kernel)) rfl
theorem k_2050 : Cond.code yX11_isBox cX11_isBox 1 (some .boolean) ∈ BIG := mB (List.mem_of_getElem? (i := 2050) (by decide +kernel)) rfl
theorem k_2051 : Cond.methodLink RL 204 yX11_back ∈ BIG := mB (List.mem_of_getElem? (i := 2051) (by decide +kernel)) rfl
theorem k_2052 : Cond.instanceMethod yX11_back ∈ BIG := mB (List.mem_of_getElem? (i := 2052) (by decide +kernel)) rfl
theorem k_2053 : Cond.selects RX11 yX11_back yX11_back ∈ BIG := mB (List.mem_of_getElem? (i := 2053) (by decide +kernel)) rfl
theorem k_2054 : Cond.code yX11_back cX11_back 3 (some .int) ∈ BIG := mB (List.mem_of_getElem? (i := 2054) (by decide +kernel)) rfl
theorem k_2055 : Cond.methodLink RL 208 yX11_about ∈ BIG := mB (List.mem_of_getElem? (i := 2055) (by decide +kernel)) rfl
theorem k_2056 : Cond.instanceMethod yX11_about ∈ BIG := mB (List.mem_of_getElem? (i := 2056) (by decide +kernel)) rfl
theorem k_2057 : Cond.selects RX11 yX11_about yX11_about ∈ BIG := mB (List.mem_of_getElem? (i := 2057) (by decide +kernel)) rfl
theorem k_2058 : Cond.code yX11_about cX11_about 2 (some .int) ∈ BIG := mB (List.mem_of_getElem? (i := 2058) (by decide +kernel)) rfl
