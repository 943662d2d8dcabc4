set_option maxRecDepth 1000000 in
theorem zk_9_0 : zmtC (9, 0, yX9_init, cX9_init, 1, none, 1245) = true := zmtC_mk rfl (by decide +kernel)
set_option maxRecDepth 1000000 in
theorem zk_9_1 : zmtC (9, 5, yX9_feed, cX9_feed, 6, (some .int), 1498) = true := zmtC_mk rfl (by decide +kernel)
set_option maxRecDepth 1000000 in
theorem zk_9_2 : zmtC (9, 1, yX9_refuses, cX9_refuses, 2, (some .int), 1502) = true := zmtC_mk rfl (by decide +kernel)
set_option maxRecDepth 1000000 in
theorem zk_9_3 : zmtC (9, 1, yX9_put, cX9_put, 3, none, 1506) = true := zmtC_mk rfl (by decide +kernel)
set_option maxRecDepth 1000000 in
theorem zk_9_4 : zmtC (9, 1, yX9_end, cX9_end, 2, (some .boolean), 1510) = true := zmtC_mk rfl (by decide +kernel)
set_option maxRecDepth 1000000 in
theorem zk_9_5 : zmtC (9, 0, yX9_dorm, cX9_dorm, 2, (some .int), 1514) = true := zmtC_mk rfl (by decide +kernel)
set_option maxRecDepth 1000000 in
theorem zk_9_6 : zmtC (9, 0, yX9_ahead, cX9_ahead, 6, none, 1518) = true := zmtC_mk rfl (by decide +kernel)
set_option maxRecDepth 1000000 in
theorem zk_9_7 : zmtC (9, 1, yX9_isLetter, cX9_isLetter, 1, (some .boolean), 1521) = true := zmtC_mk rfl (by decide +kernel)
set_option maxRecDepth 1000000 in
theorem zk_9_8 : zmtC (9, 1, yX9_isDigit, cX9_isDigit, 1, (some .boolean), 1524) = true := zmtC_mk rfl (by decide +kernel)
set_option maxRecDepth 1000000 in
theorem zk_9_9 : zmtC (9, 2, yX9_blame, cX9_blame, 3, none, 1528) = true := zmtC_mk rfl (by decide +kernel)
set_option maxRecDepth 1000000 in
theorem zk_9_10 : zmtC (9, 0, yX9_statement, cX9_statement, 1, none, 1532) = true := zmtC_mk rfl (by decide +kernel)
set_option maxRecDepth 1000000 in
theorem zk_9_11 : zmtC (9, 1, yX9_isWord, cX9_isWord, 3, (some .boolean), 1537) = true := zmtC_mk rfl (by decide +kernel)
set_option maxRecDepth 1000000 in
theorem zk_9_12 : zmtC (9, 0, yX9_boying, cX9_boying, 2, none, 1541) = true := zmtC_mk rfl (by decide +kernel)
set_option maxRecDepth 1000000 in
theorem zk_9_13 : zmtC (9, 1, yX9_counts, cX9_counts, 2, (some .boolean), 1545) = true := zmtC_mk rfl (by decide +kernel)
set_option maxRecDepth 1000000 in
theorem zk_9_14 : zmtC (9, 0, yX9_fresh, cX9_fresh, 3, (some .long), 1549) = true := zmtC_mk rfl (by decide +kernel)
set_option maxRecDepth 1000000 in
theorem zk_9_15 : zmtC (9, 1, yX9_isOwn, cX9_isOwn, 3, (some .boolean), 1553) = true := zmtC_mk rfl (by decide +kernel)
set_option maxRecDepth 1000000 in
theorem zk_9_16 : zmtC (9, 1, yX9_isThere, cX9_isThere, 4, (some .boolean), 1583) = true := zmtC_mk rfl (by decide +kernel)
set_option maxRecDepth 1000000 in
theorem zk_9_17 : zmtC (9, 1, yX9_must_, cX9_must_, 3, none, 1587) = true := zmtC_mk rfl (by decide +kernel)
set_option maxRecDepth 1000000 in
theorem zk_9_18 : zmtC (9, 2, yX9_number, cX9_number, 4, (some .int), 1591) = true := zmtC_mk rfl (by decide +kernel)
set_option maxRecDepth 1000000 in
theorem zk_9_19 : zmtC (9, 3, yX9_is, cX9_is, 3, (some .boolean), 1594) = true := zmtC_mk rfl (by decide +kernel)
set_option maxRecDepth 1000000 in
theorem zk_9_20 : zmtC (9, 1, yX9_marking, cX9_marking, 3, none, 1598) = true := zmtC_mk rfl (by decide +kernel)
set_option maxRecDepth 1000000 in
theorem zk_9_21 : zmtC (9, 0, yX9_slacking, cX9_slacking, 3, none, 1602) = true := zmtC_mk rfl (by decide +kernel)
set_option maxRecDepth 1000000 in
theorem zk_9_22 : zmtC (9, 0, yX9_dreaming, cX9_dreaming, 2, none, 1606) = true := zmtC_mk rfl (by decide +kernel)
set_option maxRecDepth 1000000 in
theorem zk_9_23 : zmtC (9, 1, yX9_lawing, cX9_lawing, 3, none, 1610) = true := zmtC_mk rfl (by decide +kernel)
set_option maxRecDepth 1000000 in
theorem zk_9_24 : zmtC (9, 1, yX9_reads, cX9_reads, 3, none, 1614) = true := zmtC_mk rfl (by decide +kernel)
set_option maxRecDepth 1000000 in
theorem zk_9_25 : zmtC (9, 1, yX9_pushes, cX9_pushes, 2, none, 1618) = true := zmtC_mk rfl (by decide +kernel)
set_option maxRecDepth 1000000 in
theorem zk_9_26 : zmtC (9, 0, yX9_operand, cX9_operand, 4, (some .boolean), 1622) = true := zmtC_mk rfl (by decide +kernel)
set_option maxRecDepth 1000000 in
theorem zk_9_27 : zmtC (9, 1, yX9_isTest, cX9_isTest, 1, (some .boolean), 1625) = true := zmtC_mk rfl (by decide +kernel)
set_option maxRecDepth 1000000 in
theorem zk_9_28 : zmtC (9, 1, yX9_holdsBack, cX9_holdsBack, 2, none, 1629) = true := zmtC_mk rfl (by decide +kernel)
set_option maxRecDepth 1000000 in
theorem zk_9_29 : zmtC (9, 1, yX9_isSign, cX9_isSign, 2, (some .boolean), 1633) = true := zmtC_mk rfl (by decide +kernel)
set_option maxRecDepth 1000000 in
theorem zk_9_30 : zmtC (9, 1, yX9_opens, cX9_opens, 2, none, 1637) = true := zmtC_mk rfl (by decide +kernel)
set_option maxRecDepth 1000000 in
theorem zk_9_31 : zmtC (9, 2, yX9_add, cX9_add, 3, none, 1641) = true := zmtC_mk rfl (by decide +kernel)
set_option maxRecDepth 1000000 in
theorem zk_9_32 : zmtC (9, 0, yX9_goesOn, cX9_goesOn, 5, (some .boolean), 1645) = true := zmtC_mk rfl (by decide +kernel)
set_option maxRecDepth 1000000 in
theorem zk_9_33 : zmtC (9, 1, yX9_joins, cX9_joins, 2, none, 1649) = true := zmtC_mk rfl (by decide +kernel)
set_option maxRecDepth 1000000 in
theorem zk_9_34 : zmtC (9, 1, yX9_rank, cX9_rank, 1, (some .int), 1652) = true := zmtC_mk rfl (by decide +kernel)
set_option maxRecDepth 1000000 in
theorem zk_9_35 : zmtC (9, 1, yX9_ends, cX9_ends, 3, none, 1656) = true := zmtC_mk rfl (by decide +kernel)
set_option maxRecDepth 1000000 in
theorem zk_9_36 : zmtC (9, 1, yX9_must, cX9_must, 2, none, 1660) = true := zmtC_mk rfl (by decide +kernel)
set_option maxRecDepth 1000000 in
theorem zk_9_37 : zmtC (9, 0, yX9_begins, cX9_begins, 2, none, 1664) = true := zmtC_mk rfl (by decide +kernel)
set_option maxRecDepth 1000000 in
theorem zk_9_38 : zmtC (9, 1, yX9_clears, cX9_clears, 2, none, 1668) = true := zmtC_mk rfl (by decide +kernel)
set_option maxRecDepth 1000000 in
theorem zk_9_39 : zmtC (9, 1, yX9_fault, cX9_fault, 2, (some .int), 1672) = true := zmtC_mk rfl (by decide +kernel)
set_option maxRecDepth 1000000 in
theorem zk_9_40 : zmtC (9, 1, yX9_status, cX9_status, 2, (some .int), 1676) = true := zmtC_mk rfl (by decide +kernel)
set_option maxRecDepth 1000000 in
theorem zk_9_41 : zmtC (9, 0, yX9_undo, cX9_undo, 1, (some .boolean), 1680) = true := zmtC_mk rfl (by decide +kernel)
set_option maxRecDepth 1000000 in
theorem zk_9_42 : zmtC (9, 1, yX9_ring, cX9_ring, 2, (some .int), 1684) = true := zmtC_mk rfl (by decide +kernel)
set_option maxRecDepth 1000000 in
theorem zk_9_43 : zmtC (9, 2, yX9_copies, cX9_copies, 6, none, 1688) = true := zmtC_mk rfl (by decide +kernel)
set_option maxRecDepth 1000000 in
theorem zk_9_44 : zmtC (9, 1, yX9_has, cX9_has, 4, (some .int), 1692) = true := zmtC_mk rfl (by decide +kernel)
set_option maxRecDepth 1000000 in
theorem zk_9_45 : zmtC (9, 0, yX9_many, cX9_many, 1, (some .int), 1696) = true := zmtC_mk rfl (by decide +kernel)
set_option maxRecDepth 1000000 in
theorem zk_9_46 : zmtC (9, 0, yX9_pieces, cX9_pieces, 3, (some .int), 1700) = true := zmtC_mk rfl (by decide +kernel)
set_option maxRecDepth 1000000 in
theorem zk_9_47 : zmtC (9, 3, yX9_letter, cX9_letter, 9, (some .int), 1704) = true := zmtC_mk rfl (by decide +kernel)
set_option maxRecDepth 1000000 in
theorem zk_9_48 : zmtC (9, 2, yX9_boy, cX9_boy, 3, (some .int), 1709) = true := zmtC_mk rfl (by decide +kernel)
set_option maxRecDepth 1000000 in
theorem zk_9_49 : zmtC (9, 1, yX9_isBoy, cX9_isBoy, 2, (some .boolean), 1713) = true := zmtC_mk rfl (by decide +kernel)
set_option maxRecDepth 1000000 in
theorem zk_9_50 : zmtC (9, 2, yX9_placeOf, cX9_placeOf, 4, (some .int), 1717) = true := zmtC_mk rfl (by decide +kernel)
set_option maxRecDepth 1000000 in
theorem zk_9_51 : zmtC (9, 1, yX9_at, cX9_at, 2, (some .int), 1721) = true := zmtC_mk rfl (by decide +kernel)
set_option maxRecDepth 1000000 in
theorem zk_9_52 : zmtC (9, 2, yX9_knot, cX9_knot, 3, (some .int), 1725) = true := zmtC_mk rfl (by decide +kernel)
set_option maxRecDepth 1000000 in
theorem zk_9_53 : zmtC (9, 1, yX9_isKnot, cX9_isKnot, 2, (some .boolean), 1729) = true := zmtC_mk rfl (by decide +kernel)
set_option maxRecDepth 1000000 in
theorem zk_9_54 : zmtC (9, 1, yX9_strain, cX9_strain, 6, (some .int), 1733) = true := zmtC_mk rfl (by decide +kernel)
set_option maxRecDepth 1000000 in
theorem zk_9_55 : zmtC (9, 2, yX9_dream, cX9_dream, 5, (some .int), 1737) = true := zmtC_mk rfl (by decide +kernel)
set_option maxRecDepth 1000000 in
theorem zk_9_56 : zmtC (9, 1, yX9_isDream, cX9_isDream, 2, (some .boolean), 1741) = true := zmtC_mk rfl (by decide +kernel)
set_option maxRecDepth 1000000 in
theorem zk_9_57 : zmtC (9, 2, yX9_tug, cX9_tug, 3, (some .int), 1745) = true := zmtC_mk rfl (by decide +kernel)
set_option maxRecDepth 1000000 in
theorem zk_9_58 : zmtC (9, 3, yX9_law, cX9_law, 4, (some .int), 1749) = true := zmtC_mk rfl (by decide +kernel)
set_option maxRecDepth 1000000 in
theorem zk_9_59 : zmtC (9, 1, yX9_rowNow, cX9_rowNow, 3, none, 1753) = true := zmtC_mk rfl (by decide +kernel)
set_option maxRecDepth 1000000 in
theorem zk_9_60 : zmtC (9, 2, yX9_passedOf, cX9_passedOf, 4, (some .int), 1757) = true := zmtC_mk rfl (by decide +kernel)
set_option maxRecDepth 1000000 in
theorem zk_9_61 : zmtC (9, 1, yX9_isGhost, cX9_isGhost, 2, (some .boolean), 1761) = true := zmtC_mk rfl (by decide +kernel)
set_option maxRecDepth 1000000 in
theorem zk_9_62 : zmtC (9, 2, yX9_meets, cX9_meets, 4, none, 1765) = true := zmtC_mk rfl (by decide +kernel)
set_option maxRecDepth 1000000 in
theorem zk_9_63 : zmtC (9, 1, yX9_beside, cX9_beside, 3, (some .int), 1769) = true := zmtC_mk rfl (by decide +kernel)
set_option maxRecDepth 1000000 in
theorem zk_9_64 : zmtC (9, 1, yX9_isTied, cX9_isTied, 2, (some .boolean), 1773) = true := zmtC_mk rfl (by decide +kernel)
set_option maxRecDepth 1000000 in
theorem zk_9_65 : zmtC (9, 1, yX9_snores, cX9_snores, 2, (some .boolean), 1777) = true := zmtC_mk rfl (by decide +kernel)
set_option maxRecDepth 1000000 in
theorem zk_9_66 : zmtC (9, 3, yX9_lawOf, cX9_lawOf, 7, (some .int), 1781) = true := zmtC_mk rfl (by decide +kernel)
set_option maxRecDepth 1000000 in
theorem zk_9_67 : zmtC (9, 2, yX9_reckons, cX9_reckons, 6, (some .long), 1785) = true := zmtC_mk rfl (by decide +kernel)
set_option maxRecDepth 1000000 in
theorem zk_9_68 : zmtC (9, 3, yX9_made, cX9_made, 5, (some .long), 1788) = true := zmtC_mk rfl (by decide +kernel)
set_option maxRecDepth 1000000 in
theorem zk_9_69 : zmtC (9, 1, yX9_bounded, cX9_bounded, 2, (some .long), 1791) = true := zmtC_mk rfl (by decide +kernel)
set_option maxRecDepth 1000000 in
theorem zk_9_70 : zmtC (9, 2, yX9_over, cX9_over, 6, (some .long), 1796) = true := zmtC_mk rfl (by decide +kernel)
set_option maxRecDepth 1000000 in
theorem zk_9_71 : zmtC (9, 2, yX9_deepOf, cX9_deepOf, 3, (some .int), 1800) = true := zmtC_mk rfl (by decide +kernel)
set_option maxRecDepth 1000000 in
theorem zk_9_72 : zmtC (9, 1, yX9_go, cX9_go, 3, (some .int), 1804) = true := zmtC_mk rfl (by decide +kernel)
set_option maxRecDepth 1000000 in
theorem zk_9_73 : zmtC (9, 0, yX9_keeps, cX9_keeps, 1, none, 1808) = true := zmtC_mk rfl (by decide +kernel)
set_option maxRecDepth 1000000 in
theorem zk_9_74 : zmtC (9, 1, yX9_minuteGoes, cX9_minuteGoes, 7, none, 1812) = true := zmtC_mk rfl (by decide +kernel)
set_option maxRecDepth 1000000 in
theorem zk_9_75 : zmtC (9, 2, yX9_canDream, cX9_canDream, 3, (some .boolean), 1816) = true := zmtC_mk rfl (by decide +kernel)
set_option maxRecDepth 1000000 in
theorem zk_9_76 : zmtC (9, 5, yX9_begin, cX9_begin, 9, (some .int), 1820) = true := zmtC_mk rfl (by decide +kernel)
set_option maxRecDepth 1000000 in
theorem zk_9_77 : zmtC (9, 5, yX9_tells, cX9_tells, 7, none, 1824) = true := zmtC_mk rfl (by decide +kernel)
set_option maxRecDepth 1000000 in
theorem zk_9_78 : zmtC (9, 2, yX9_tugs, cX9_tugs, 5, none, 1828) = true := zmtC_mk rfl (by decide +kernel)
set_option maxRecDepth 1000000 in
theorem zk_9_79 : zmtC (9, 1, yX9_slackAt, cX9_slackAt, 2, (some .int), 1832) = true := zmtC_mk rfl (by decide +kernel)
set_option maxRecDepth 1000000 in
theorem zk_9_80 : zmtC (9, 2, yX9_comes, cX9_comes, 4, (some .int), 1836) = true := zmtC_mk rfl (by decide +kernel)
set_option maxRecDepth 1000000 in
theorem zk_9_81 : zmtC (9, 1, yX9_bits, cX9_bits, 3, (some .int), 1839) = true := zmtC_mk rfl (by decide +kernel)
set_option maxRecDepth 1000000 in
theorem zk_9_82 : zmtC (9, 5, yX9_isFelt, cX9_isFelt, 8, none, 1843) = true := zmtC_mk rfl (by decide +kernel)
set_option maxRecDepth 1000000 in
theorem zk_9_83 : zmtC (9, 2, yX9_wakesUp, cX9_wakesUp, 3, none, 1848) = true := zmtC_mk rfl (by decide +kernel)
set_option maxRecDepth 1000000 in
theorem zk_9_84 : zmtC (9, 1, yX9_draw, cX9_draw, 2, (some .int), 1852) = true := zmtC_mk rfl (by decide +kernel)
set_option maxRecDepth 1000000 in
theorem zk_9_85 : zmtC (9, 0, yX9_drawn, cX9_drawn, 3, (some .int), 1860) = true := zmtC_mk rfl (by decide +kernel)
set_option maxRecDepth 1000000 in
theorem zk_9_86 : zmtC (9, 0, yX9_oddsAll, cX9_oddsAll, 3, (some .int), 1864) = true := zmtC_mk rfl (by decide +kernel)
set_option maxRecDepth 1000000 in
theorem zk_9_87 : zmtC (9, 2, yX9_dreams, cX9_dreams, 3, (some .int), 1868) = true := zmtC_mk rfl (by decide +kernel)
set_option maxRecDepth 1000000 in
theorem zk_9_88 : zmtC (9, 2, yX9_wake, cX9_wake, 3, (some .boolean), 1872) = true := zmtC_mk rfl (by decide +kernel)
set_option maxRecDepth 1000000 in
theorem zk_9_89 : zmtC (9, 2, yX9_tie, cX9_tie, 3, (some .boolean), 1876) = true := zmtC_mk rfl (by decide +kernel)
set_option maxRecDepth 1000000 in
theorem zk_9_90 : zmtC (9, 2, yX9_slack, cX9_slack, 4, (some .int), 1880) = true := zmtC_mk rfl (by decide +kernel)
set_option maxRecDepth 1000000 in
theorem zk_9_91 : zmtC (9, 2, yX9_swap, cX9_swap, 4, (some .boolean), 1884) = true := zmtC_mk rfl (by decide +kernel)
set_option maxRecDepth 1000000 in
theorem zk_9_92 : zmtC (9, 1, yX9_seed, cX9_seed, 2, (some .boolean), 1888) = true := zmtC_mk rfl (by decide +kernel)
set_option maxRecDepth 1000000 in
theorem zk_9_93 : zmtC (9, 3, yX9_feels, cX9_feels, 4, (some .int), 1892) = true := zmtC_mk rfl (by decide +kernel)
set_option maxRecDepth 1000000 in
theorem zk_9_94 : zmtC (9, 2, yX9_wakes, cX9_wakes, 3, (some .int), 1896) = true := zmtC_mk rfl (by decide +kernel)
set_option maxRecDepth 1000000 in
theorem zk_9_95 : zmtC (9, 2, yX9_least, cX9_least, 4, (some .int), 1900) = true := zmtC_mk rfl (by decide +kernel)
set_option maxRecDepth 1000000 in
theorem zk_9_96 : zmtC (9, 0, yX9_bad, cX9_bad, 1, (some .int), 1904) = true := zmtC_mk rfl (by decide +kernel)
set_option maxRecDepth 1000000 in
theorem zk_9_97 : zmtC (9, 0, yX9_badness, cX9_badness, 4, (some .int), 1908) = true := zmtC_mk rfl (by decide +kernel)
set_option maxRecDepth 1000000 in
theorem zk_9_98 : zmtC (9, 1, yX9_best, cX9_best, 7, (some .int), 1912) = true := zmtC_mk rfl (by decide +kernel)
set_option maxRecDepth 1000000 in
theorem zk_9_99 : zmtC (9, 0, yX9_nextRow, cX9_nextRow, 5, (some .boolean), 1916) = true := zmtC_mk rfl (by decide +kernel)
set_option maxRecDepth 1000000 in
theorem zk_9_100 : zmtC (9, 2, yX9_changes, cX9_changes, 4, none, 1920) = true := zmtC_mk rfl (by decide +kernel)
set_option maxRecDepth 1000000 in
theorem zk_9_101 : zmtC (9, 1, yX9_exchange, cX9_exchange, 3, (some .int), 1924) = true := zmtC_mk rfl (by decide +kernel)
set_option maxRecDepth 1000000 in
theorem zk_9_102 : zmtC (9, 0, yX9_exchanged, cX9_exchanged, 9, (some .int), 1928) = true := zmtC_mk rfl (by decide +kernel)
set_option maxRecDepth 1000000 in
theorem zk_9_103 : zmtC (9, 0, yX9_lay, cX9_lay, 2, (some .int), 1932) = true := zmtC_mk rfl (by decide +kernel)
set_option maxRecDepth 1000000 in
theorem zk_9_104 : zmtC (9, 1, yX9_two, cX9_two, 7, (some .int), 1936) = true := zmtC_mk rfl (by decide +kernel)
set_option maxRecDepth 1000000 in
theorem zk_9_105 : zmtC (9, 1, yX9_ropeOf, cX9_ropeOf, 3, (some .int), 1940) = true := zmtC_mk rfl (by decide +kernel)
set_option maxRecDepth 1000000 in
theorem zk_9_106 : zmtC (9, 0, yX9_hear, cX9_hear, 3, (some .boolean), 1944) = true := zmtC_mk rfl (by decide +kernel)
set_option maxRecDepth 1000000 in
theorem zk_9_107 : zmtC (9, 2, yX9_pulled, cX9_pulled, 6, (some .int), 1948) = true := zmtC_mk rfl (by decide +kernel)
set_option maxRecDepth 1000000 in
theorem zk_9_108 : zmtC (9, 0, yX9_allOdds, cX9_allOdds, 4, (some .int), 1952) = true := zmtC_mk rfl (by decide +kernel)
set_option maxRecDepth 1000000 in
theorem zk_9_109 : zmtC (9, 2, yX9_oddsIf, cX9_oddsIf, 4, (some .int), 1956) = true := zmtC_mk rfl (by decide +kernel)
set_option maxRecDepth 1000000 in
theorem zk_9_110 : zmtC (9, 2, yX9_cut, cX9_cut, 7, (some .int), 1960) = true := zmtC_mk rfl (by decide +kernel)
set_option maxRecDepth 1000000 in
theorem zk_9_111 : zmtC (9, 1, yX9_firstCuts, cX9_firstCuts, 4, (some .boolean), 1964) = true := zmtC_mk rfl (by decide +kernel)
set_option maxRecDepth 1000000 in
theorem zk_9_112 : zmtC (9, 1, yX9_nextTied, cX9_nextTied, 3, (some .int), 1968) = true := zmtC_mk rfl (by decide +kernel)
set_option maxRecDepth 1000000 in
theorem zk_9_113 : zmtC (9, 1, yX9_heaviest, cX9_heaviest, 5, (some .int), 1972) = true := zmtC_mk rfl (by decide +kernel)
set_option maxRecDepth 1000000 in
theorem zk_9_114 : zmtC (9, 2, yX9_isCut, cX9_isCut, 4, (some .boolean), 1976) = true := zmtC_mk rfl (by decide +kernel)
set_option maxRecDepth 1000000 in
theorem zk_9_115 : zmtC (9, 1, yX9_nextCuts, cX9_nextCuts, 6, (some .boolean), 1980) = true := zmtC_mk rfl (by decide +kernel)
set_option maxRecDepth 1000000 in
theorem zk_9_116 : zmtC (9, 1, yX9_walk, cX9_walk, 7, (some .int), 1984) = true := zmtC_mk rfl (by decide +kernel)
set_option maxRecDepth 1000000 in
theorem zk_9_117 : zmtC (9, 2, yX9_beds, cX9_beds, 7, (some .int), 1988) = true := zmtC_mk rfl (by decide +kernel)
set_option maxRecDepth 1000000 in
theorem zk_9_118 : zmtC (9, 3, yX9_nights, cX9_nights, 9, (some .int), 1992) = true := zmtC_mk rfl (by decide +kernel)
set_option maxRecDepth 1000000 in
theorem zk_9_119 : zmtC (9, 0, yX9_image, cX9_image, 4, (some .int), 1996) = true := zmtC_mk rfl (by decide +kernel)
set_option maxRecDepth 1000000 in
theorem zk_9_120 : zmtC (9, 1, yX9_writes, cX9_writes, 2, none, 2000) = true := zmtC_mk rfl (by decide +kernel)
set_option maxRecDepth 1000000 in
theorem zk_9_121 : zmtC (9, 1, yX9_octet, cX9_octet, 2, (some .int), 2004) = true := zmtC_mk rfl (by decide +kernel)
set_option maxRecDepth 1000000 in
theorem zk_9_122 : zmtC (9, 0, yX9_on, cX9_on, 5, (some .boolean), 2008) = true := zmtC_mk rfl (by decide +kernel)
set_option maxRecDepth 1000000 in
theorem zk_9_123 : zmtC (9, 1, yX9_isImage, cX9_isImage, 5, (some .boolean), 2012) = true := zmtC_mk rfl (by decide +kernel)
set_option maxRecDepth 1000000 in
theorem zk_9_124 : zmtC (9, 0, yX9_knotsMany, cX9_knotsMany, 1, (some .int), 2016) = true := zmtC_mk rfl (by decide +kernel)
set_option maxRecDepth 1000000 in
theorem zk_9_125 : zmtC (9, 1, yX9_isBoyOn, cX9_isBoyOn, 5, (some .boolean), 2020) = true := zmtC_mk rfl (by decide +kernel)
theorem zmt9_ok : ∀ t ∈ zmt9, zmtC t = true := List.forall_mem_cons.mpr ⟨zk_9_0, List.forall_mem_cons.mpr ⟨zk_9_1, List.forall_mem_cons.mpr ⟨zk_9_2, List.forall_mem_cons.mpr ⟨zk_9_3, List.forall_mem_cons.mpr ⟨zk_9_4, List.forall_mem_cons.mpr ⟨zk_9_5, List.forall_mem_cons.mpr ⟨zk_9_6, List.forall_mem_cons.mpr ⟨zk_9_7, List.forall_mem_cons.mpr ⟨zk_9_8, List.forall_mem_cons.mpr ⟨zk_9_9, List.forall_mem_cons.mpr ⟨zk_9_10, List.forall_mem_cons.mpr ⟨zk_9_11, List.forall_mem_cons.mpr ⟨zk_9_12, List.forall_mem_cons.mpr ⟨zk_9_13, List.forall_mem_cons.mpr ⟨zk_9_14, List.forall_mem_cons.mpr ⟨zk_9_15, List.forall_mem_cons.mpr ⟨zk_9_16, List.forall_mem_cons.mpr ⟨zk_9_17, List.forall_mem_cons.mpr ⟨zk_9_18, List.forall_mem_cons.mpr ⟨zk_9_19, List.forall_mem_cons.mpr ⟨zk_9_20, List.forall_mem_cons.mpr ⟨zk_9_21, List.forall_mem_cons.mpr ⟨zk_9_22, List.forall_mem_cons.mpr ⟨zk_9_23, List.forall_mem_cons.mpr ⟨zk_9_24, List.forall_mem_cons.mpr ⟨zk_9_25, List.forall_mem_cons.mpr ⟨zk_9_26, List.forall_mem_cons.mpr ⟨zk_9_27, List.forall_mem_cons.mpr ⟨zk_9_28, List.forall_mem_cons.mpr ⟨zk_9_29, List.forall_mem_cons.mpr ⟨zk_9_30, List.forall_mem_cons.mpr ⟨zk_9_31, List.forall_mem_cons.mpr ⟨zk_9_32, List.forall_mem_cons.mpr ⟨zk_9_33, List.forall_mem_cons.mpr ⟨zk_9_34, List.forall_mem_cons.mpr ⟨zk_9_35, List.forall_mem_cons.mpr ⟨zk_9_36, List.forall_mem_cons.mpr ⟨zk_9_37, List.forall_mem_cons.mpr ⟨zk_9_38, List.forall_mem_cons.mpr ⟨zk_9_39, List.forall_mem_cons.mpr ⟨zk_9_40, List.forall_mem_cons.mpr ⟨zk_9_41, List.forall_mem_cons.mpr ⟨zk_9_42, List.forall_mem_cons.mpr ⟨zk_9_43, List.forall_mem_cons.mpr ⟨zk_9_44, List.forall_mem_cons.mpr ⟨zk_9_45, List.forall_mem_cons.mpr ⟨zk_9_46, List.forall_mem_cons.mpr ⟨zk_9_47, List.forall_mem_cons.mpr ⟨zk_9_48, List.forall_mem_cons.mpr ⟨zk_9_49, List.forall_mem_cons.mpr ⟨zk_9_50, List.forall_mem_cons.mpr ⟨zk_9_51, List.forall_mem_cons.mpr ⟨zk_9_52, List.forall_mem_cons.mpr ⟨zk_9_53, List.forall_mem_cons.mpr ⟨zk_9_54, List.forall_mem_cons.mpr ⟨zk_9_55, List.forall_mem_cons.mpr ⟨zk_9_56, List.forall_mem_cons.mpr ⟨zk_9_57, List.forall_mem_cons.mpr ⟨zk_9_58, List.forall_mem_cons.mpr ⟨zk_9_59, List.forall_mem_cons.mpr ⟨zk_9_60, List.forall_mem_cons.mpr ⟨zk_9_61, List.forall_mem_cons.mpr ⟨zk_9_62, List.forall_mem_cons.mpr ⟨zk_9_63, List.forall_mem_cons.mpr ⟨zk_9_64, List.forall_mem_cons.mpr ⟨zk_9_65, List.forall_mem_cons.mpr ⟨zk_9_66, List.forall_mem_cons.mpr ⟨zk_9_67, List.forall_mem_cons.mpr ⟨zk_9_68, List.forall_mem_cons.mpr ⟨zk_9_69, List.forall_mem_cons.mpr ⟨zk_9_70, List.forall_mem_cons.mpr ⟨zk_9_71, List.forall_mem_cons.mpr ⟨zk_9_72, List.forall_mem_cons.mpr ⟨zk_9_73, List.forall_mem_cons.mpr ⟨zk_9_74, List.forall_mem_cons.mpr ⟨zk_9_75, List.forall_mem_cons.mpr ⟨zk_9_76, List.forall_mem_cons.mpr ⟨zk_9_77, List.forall_mem_cons.mpr ⟨zk_9_78, List.forall_mem_cons.mpr ⟨zk_9_79, List.forall_mem_cons.mpr ⟨zk_9_80, List.forall_mem_cons.mpr ⟨zk_9_81, List.forall_mem_cons.mpr ⟨zk_9_82, List.forall_mem_cons.mpr ⟨zk_9_83, List.forall_mem_cons.mpr ⟨zk_9_84, List.forall_mem_cons.mpr ⟨zk_9_85, List.forall_mem_cons.mpr ⟨zk_9_86, List.forall_mem_cons.mpr ⟨zk_9_87, List.forall_mem_cons.mpr ⟨zk_9_88, List.forall_mem_cons.mpr ⟨zk_9_89, List.forall_mem_cons.mpr ⟨zk_9_90, List.forall_mem_cons.mpr ⟨zk_9_91, List.forall_mem_cons.mpr ⟨zk_9_92, List.forall_mem_cons.mpr ⟨zk_9_93, List.forall_mem_cons.mpr ⟨zk_9_94, List.forall_mem_cons.mpr ⟨zk_9_95, List.forall_mem_cons.mpr ⟨zk_9_96, List.forall_mem_cons.mpr ⟨zk_9_97, List.forall_mem_cons.mpr ⟨zk_9_98, List.forall_mem_cons.mpr ⟨zk_9_99, List.forall_mem_cons.mpr ⟨zk_9_100, List.forall_mem_cons.mpr ⟨zk_9_101, List.forall_mem_cons.mpr ⟨zk_9_102, List.forall_mem_cons.mpr ⟨zk_9_103, List.forall_mem_cons.mpr ⟨zk_9_104, List.forall_mem_cons.mpr ⟨zk_9_105, List.forall_mem_cons.mpr ⟨zk_9_106, List.forall_mem_cons.mpr ⟨zk_9_107, List.forall_mem_cons.mpr ⟨zk_9_108, List.forall_mem_cons.mpr ⟨zk_9_109, List.forall_mem_cons.mpr ⟨zk_9_110, List.forall_mem_cons.mpr ⟨zk_9_111, List.forall_mem_cons.mpr ⟨zk_9_112, List.forall_mem_cons.mpr ⟨zk_9_113, List.forall_mem_cons.mpr ⟨zk_9_114, List.forall_mem_cons.mpr ⟨zk_9_115, List.forall_mem_cons.mpr ⟨zk_9_116, List.forall_mem_cons.mpr ⟨zk_9_117, List.forall_mem_cons.mpr ⟨zk_9_118, List.forall_mem_cons.mpr ⟨zk_9_119, List.forall_mem_cons.mpr ⟨zk_9_120, List.forall_mem_cons.mpr ⟨zk_9_121, List.forall_mem_cons.mpr ⟨zk_9_122, List.forall_mem_cons.mpr ⟨zk_9_123, List.forall_mem_cons.mpr ⟨zk_9_124, List.forall_mem_cons.mpr ⟨zk_9_125, fun _ h => absurd h List.not_mem_nil⟩⟩⟩⟩⟩⟩⟩⟩⟩⟩⟩⟩⟩⟩⟩⟩⟩⟩⟩⟩⟩⟩⟩⟩⟩⟩⟩⟩⟩⟩⟩⟩⟩⟩⟩⟩⟩⟩⟩⟩⟩⟩⟩⟩⟩⟩⟩⟩⟩⟩⟩⟩⟩⟩⟩⟩⟩⟩⟩⟩⟩⟩⟩⟩⟩⟩⟩⟩⟩⟩⟩⟩⟩⟩⟩⟩⟩⟩⟩⟩⟩⟩⟩⟩⟩⟩⟩⟩⟩⟩⟩⟩⟩⟩⟩⟩⟩⟩⟩⟩⟩⟩⟩⟩⟩⟩⟩⟩⟩⟩⟩⟩⟩⟩⟩⟩⟩⟩⟩⟩⟩⟩⟩⟩⟩⟩
