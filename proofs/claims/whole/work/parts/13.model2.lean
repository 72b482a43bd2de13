theorem kw1606 : Cond.methodLink RX9 112 yX9_choir ∈ lwX := kw 1606 (by decide +kernel) (by decide +kernel)
theorem kw1608 : Cond.instanceMethod yX9_choir ∈ lwX := kw 1608 (by decide +kernel) (by decide +kernel)
theorem kw95 : Cond.selects RX9 yX9_choir yX9_choir ∈ lwX := kw 95 (by decide +kernel) (by decide +kernel)
theorem kw1609 : Cond.code yX9_choir cX9_choir 7 (some .int) ∈ lwX := kw 1609 (by decide +kernel) (by decide +kernel)
theorem kw1602 : Cond.methodLink RX9 138 yX9_greatestChoir ∈ lwX := kw 1602 (by decide +kernel) (by decide +kernel)
theorem kw1604 : Cond.instanceMethod yX9_greatestChoir ∈ lwX := kw 1604 (by decide +kernel) (by decide +kernel)
theorem kw94 : Cond.selects RX9 yX9_greatestChoir yX9_greatestChoir ∈ lwX := kw 94 (by decide +kernel) (by decide +kernel)
theorem kw1605 : Cond.code yX9_greatestChoir cX9_greatestChoir 4 (some .int) ∈ lwX := kw 1605 (by decide +kernel) (by decide +kernel)
theorem kw1589 : Cond.methodLink RX9 141 yX9_feeds ∈ lwX := kw 1589 (by decide +kernel) (by decide +kernel)
theorem kw1591 : Cond.instanceMethod yX9_feeds ∈ lwX := kw 1591 (by decide +kernel) (by decide +kernel)
theorem kw91 : Cond.selects RX9 yX9_feeds yX9_feeds ∈ lwX := kw 91 (by decide +kernel) (by decide +kernel)
theorem kw1592 : Cond.code yX9_feeds cX9_feeds 4 none ∈ lwX := kw 1592 (by decide +kernel) (by decide +kernel)
theorem kw1594 : Cond.methodLink RX9 145 yX9_eats ∈ lwX := kw 1594 (by decide +kernel) (by decide +kernel)
theorem kw1596 : Cond.instanceMethod yX9_eats ∈ lwX := kw 1596 (by decide +kernel) (by decide +kernel)
theorem kw92 : Cond.selects RX9 yX9_eats yX9_eats ∈ lwX := kw 92 (by decide +kernel) (by decide +kernel)
theorem kw1597 : Cond.code yX9_eats cX9_eats 2 none ∈ lwX := kw 1597 (by decide +kernel) (by decide +kernel)
theorem kw1598 : Cond.methodLink RX9 149 yX9_sings ∈ lwX := kw 1598 (by decide +kernel) (by decide +kernel)
theorem kw1600 : Cond.instanceMethod yX9_sings ∈ lwX := kw 1600 (by decide +kernel) (by decide +kernel)
theorem kw93 : Cond.selects RX9 yX9_sings yX9_sings ∈ lwX := kw 93 (by decide +kernel) (by decide +kernel)
theorem kw1601 : Cond.code yX9_sings cX9_sings 3 none ∈ lwX := kw 1601 (by decide +kernel) (by decide +kernel)
theorem kw1585 : Cond.methodLink RX9 261 yX9_passes ∈ lwX := kw 1585 (by decide +kernel) (by decide +kernel)
theorem kw1587 : Cond.instanceMethod yX9_passes ∈ lwX := kw 1587 (by decide +kernel) (by decide +kernel)
theorem kw90 : Cond.selects RX9 yX9_passes yX9_passes ∈ lwX := kw 90 (by decide +kernel) (by decide +kernel)
theorem kw1588 : Cond.code yX9_passes cX9_passes 4 (some .int) ∈ lwX := kw 1588 (by decide +kernel) (by decide +kernel)
theorem kw1385 : Cond.methodLink RX9 311 yX9_readsChimney ∈ lwX := kw 1385 (by decide +kernel) (by decide +kernel)
theorem kw1387 : Cond.instanceMethod yX9_readsChimney ∈ lwX := kw 1387 (by decide +kernel) (by decide +kernel)
theorem kw41 : Cond.selects RX9 yX9_readsChimney yX9_readsChimney ∈ lwX := kw 41 (by decide +kernel) (by decide +kernel)
theorem kw1388 : Cond.code yX9_readsChimney cX9_readsChimney 1 (some .boolean) ∈ lwX := kw 1388 (by decide +kernel) (by decide +kernel)
theorem kw1397 : Cond.methodLink RX9 314 yX9_readsGutter ∈ lwX := kw 1397 (by decide +kernel) (by decide +kernel)
theorem kw1399 : Cond.instanceMethod yX9_readsGutter ∈ lwX := kw 1399 (by decide +kernel) (by decide +kernel)
theorem kw44 : Cond.selects RX9 yX9_readsGutter yX9_readsGutter ∈ lwX := kw 44 (by decide +kernel) (by decide +kernel)
theorem kw1400 : Cond.code yX9_readsGutter cX9_readsGutter 1 (some .boolean) ∈ lwX := kw 1400 (by decide +kernel) (by decide +kernel)
theorem kw1413 : Cond.methodLink RX9 317 yX9_readsCat ∈ lwX := kw 1413 (by decide +kernel) (by decide +kernel)
theorem kw1415 : Cond.instanceMethod yX9_readsCat ∈ lwX := kw 1415 (by decide +kernel) (by decide +kernel)
theorem kw48 : Cond.selects RX9 yX9_readsCat yX9_readsCat ∈ lwX := kw 48 (by decide +kernel) (by decide +kernel)
theorem kw1416 : Cond.code yX9_readsCat cX9_readsCat 1 (some .boolean) ∈ lwX := kw 1416 (by decide +kernel) (by decide +kernel)
theorem kw1441 : Cond.methodLink RX9 320 yX9_readsStep ∈ lwX := kw 1441 (by decide +kernel) (by decide +kernel)
theorem kw1443 : Cond.instanceMethod yX9_readsStep ∈ lwX := kw 1443 (by decide +kernel) (by decide +kernel)
theorem kw55 : Cond.selects RX9 yX9_readsStep yX9_readsStep ∈ lwX := kw 55 (by decide +kernel) (by decide +kernel)
theorem kw1444 : Cond.code yX9_readsStep cX9_readsStep 1 (some .boolean) ∈ lwX := kw 1444 (by decide +kernel) (by decide +kernel)
theorem kw1478 : Cond.methodLink RX9 323 yX9_readsClaim ∈ lwX := kw 1478 (by decide +kernel) (by decide +kernel)
theorem kw1480 : Cond.instanceMethod yX9_readsClaim ∈ lwX := kw 1480 (by decide +kernel) (by decide +kernel)
theorem kw64 : Cond.selects RX9 yX9_readsClaim yX9_readsClaim ∈ lwX := kw 64 (by decide +kernel) (by decide +kernel)
theorem kw1481 : Cond.code yX9_readsClaim cX9_readsClaim 1 (some .boolean) ∈ lwX := kw 1481 (by decide +kernel) (by decide +kernel)
theorem kw1494 : Cond.methodLink RX9 326 yX9_readsAbandon ∈ lwX := kw 1494 (by decide +kernel) (by decide +kernel)
theorem kw1496 : Cond.instanceMethod yX9_readsAbandon ∈ lwX := kw 1496 (by decide +kernel) (by decide +kernel)
theorem kw68 : Cond.selects RX9 yX9_readsAbandon yX9_readsAbandon ∈ lwX := kw 68 (by decide +kernel) (by decide +kernel)
theorem kw1497 : Cond.code yX9_readsAbandon cX9_readsAbandon 1 (some .boolean) ∈ lwX := kw 1497 (by decide +kernel) (by decide +kernel)
theorem kw1502 : Cond.methodLink RX9 329 yX9_readsChase ∈ lwX := kw 1502 (by decide +kernel) (by decide +kernel)
theorem kw1504 : Cond.instanceMethod yX9_readsChase ∈ lwX := kw 1504 (by decide +kernel) (by decide +kernel)
theorem kw70 : Cond.selects RX9 yX9_readsChase yX9_readsChase ∈ lwX := kw 70 (by decide +kernel) (by decide +kernel)
theorem kw1505 : Cond.code yX9_readsChase cX9_readsChase 1 (some .boolean) ∈ lwX := kw 1505 (by decide +kernel) (by decide +kernel)
theorem kw1530 : Cond.methodLink RX9 332 yX9_readsTruce ∈ lwX := kw 1530 (by decide +kernel) (by decide +kernel)
theorem kw1532 : Cond.instanceMethod yX9_readsTruce ∈ lwX := kw 1532 (by decide +kernel) (by decide +kernel)
theorem kw77 : Cond.selects RX9 yX9_readsTruce yX9_readsTruce ∈ lwX := kw 77 (by decide +kernel) (by decide +kernel)
theorem kw1533 : Cond.code yX9_readsTruce cX9_readsTruce 1 (some .boolean) ∈ lwX := kw 1533 (by decide +kernel) (by decide +kernel)
theorem kw1542 : Cond.methodLink RX9 335 yX9_readsKitten ∈ lwX := kw 1542 (by decide +kernel) (by decide +kernel)
theorem kw1544 : Cond.instanceMethod yX9_readsKitten ∈ lwX := kw 1544 (by decide +kernel) (by decide +kernel)
theorem kw80 : Cond.selects RX9 yX9_readsKitten yX9_readsKitten ∈ lwX := kw 80 (by decide +kernel) (by decide +kernel)
theorem kw1545 : Cond.code yX9_readsKitten cX9_readsKitten 1 (some .boolean) ∈ lwX := kw 1545 (by decide +kernel) (by decide +kernel)
theorem kw1558 : Cond.methodLink RX9 338 yX9_readsVote ∈ lwX := kw 1558 (by decide +kernel) (by decide +kernel)
theorem kw1560 : Cond.instanceMethod yX9_readsVote ∈ lwX := kw 1560 (by decide +kernel) (by decide +kernel)
theorem kw84 : Cond.selects RX9 yX9_readsVote yX9_readsVote ∈ lwX := kw 84 (by decide +kernel) (by decide +kernel)
theorem kw1561 : Cond.code yX9_readsVote cX9_readsVote 2 (some .boolean) ∈ lwX := kw 1561 (by decide +kernel) (by decide +kernel)
theorem kw1581 : Cond.methodLink RX9 341 yX9_readsNights ∈ lwX := kw 1581 (by decide +kernel) (by decide +kernel)
theorem kw1583 : Cond.instanceMethod yX9_readsNights ∈ lwX := kw 1583 (by decide +kernel) (by decide +kernel)
theorem kw89 : Cond.selects RX9 yX9_readsNights yX9_readsNights ∈ lwX := kw 89 (by decide +kernel) (by decide +kernel)
theorem kw1584 : Cond.code yX9_readsNights cX9_readsNights 1 (some .boolean) ∈ lwX := kw 1584 (by decide +kernel) (by decide +kernel)
theorem kw1626 : Cond.fieldLink RX9 57 (TX9 16).1 (TX9 16).2.1 (TX9 16).2.2.1 ∈ lwX := kw 1626 (by decide +kernel) (by decide +kernel)
theorem kw1619 : Cond.fieldLink RX9 31 (TX9 9).1 (TX9 9).2.1 (TX9 9).2.2.1 ∈ lwX := kw 1619 (by decide +kernel) (by decide +kernel)
theorem kw1900 : Cond.methodLink RX9 108 yX9_spreads ∈ lwX := kw 1900 (by decide +kernel) (by decide +kernel)
theorem kw1902 : Cond.instanceMethod yX9_spreads ∈ lwX := kw 1902 (by decide +kernel) (by decide +kernel)
theorem kw110 : Cond.selects RX9 yX9_spreads yX9_spreads ∈ lwX := kw 110 (by decide +kernel) (by decide +kernel)
theorem kw1903 : Cond.code yX9_spreads cX9_spreads 6 none ∈ lwX := kw 1903 (by decide +kernel) (by decide +kernel)
theorem kw1617 : Cond.fieldLink RX9 25 (TX9 7).1 (TX9 7).2.1 (TX9 7).2.2.1 ∈ lwX := kw 1617 (by decide +kernel) (by decide +kernel)
theorem kw1620 : Cond.fieldLink RX9 349 (TX9 10).1 (TX9 10).2.1 (TX9 10).2.2.1 ∈ lwX := kw 1620 (by decide +kernel) (by decide +kernel)
theorem kw1689 : Cond.methodLink RX9 352 yX9_type ∈ lwX := kw 1689 (by decide +kernel) (by decide +kernel)
theorem kw1691 : Cond.instanceMethod yX9_type ∈ lwX := kw 1691 (by decide +kernel) (by decide +kernel)
theorem kw96 : Cond.selects RX9 yX9_type yX9_type ∈ lwX := kw 96 (by decide +kernel) (by decide +kernel)
theorem kw1692 : Cond.code yX9_type cX9_type 3 none ∈ lwX := kw 1692 (by decide +kernel) (by decide +kernel)
theorem kw1697 : Cond.methodLink RX9 355 yX9_throwsOne ∈ lwX := kw 1697 (by decide +kernel) (by decide +kernel)
theorem kw1699 : Cond.instanceMethod yX9_throwsOne ∈ lwX := kw 1699 (by decide +kernel) (by decide +kernel)
theorem kw97 : Cond.selects RX9 yX9_throwsOne yX9_throwsOne ∈ lwX := kw 97 (by decide +kernel) (by decide +kernel)
theorem kw1700 : Cond.code yX9_throwsOne cX9_throwsOne 2 (some .boolean) ∈ lwX := kw 1700 (by decide +kernel) (by decide +kernel)
theorem kw1611 : Cond.fieldLink RX9 13 (TX9 1).1 (TX9 1).2.1 (TX9 1).2.2.1 ∈ lwX := kw 1611 (by decide +kernel) (by decide +kernel)
theorem kw1615 : Cond.fieldLink RX9 358 (TX9 5).1 (TX9 5).2.1 (TX9 5).2.2.1 ∈ lwX := kw 1615 (by decide +kernel) (by decide +kernel)
theorem kw1613 : Cond.fieldLink RX9 19 (TX9 3).1 (TX9 3).2.1 (TX9 3).2.2.1 ∈ lwX := kw 1613 (by decide +kernel) (by decide +kernel)
theorem kw1717 : Cond.methodLink RX9 367 yX9_throwsOne_ ∈ lwX := kw 1717 (by decide +kernel) (by decide +kernel)
theorem kw1719 : Cond.instanceMethod yX9_throwsOne_ ∈ lwX := kw 1719 (by decide +kernel) (by decide +kernel)
theorem kw100 : Cond.selects RX9 yX9_throwsOne_ yX9_throwsOne_ ∈ lwX := kw 100 (by decide +kernel) (by decide +kernel)
theorem kw1720 : Cond.code yX9_throwsOne_ cX9_throwsOne_ 3 (some .boolean) ∈ lwX := kw 1720 (by decide +kernel) (by decide +kernel)
theorem kw1705 : Cond.methodLink RX9 361 yX9_begins ∈ lwX := kw 1705 (by decide +kernel) (by decide +kernel)
theorem kw1707 : Cond.instanceMethod yX9_begins ∈ lwX := kw 1707 (by decide +kernel) (by decide +kernel)
theorem kw98 : Cond.selects RX9 yX9_begins yX9_begins ∈ lwX := kw 98 (by decide +kernel) (by decide +kernel)
theorem kw1708 : Cond.code yX9_begins cX9_begins 2 none ∈ lwX := kw 1708 (by decide +kernel) (by decide +kernel)
theorem kw1709 : Cond.methodLink RX9 364 yX9_remember ∈ lwX := kw 1709 (by decide +kernel) (by decide +kernel)
theorem kw1711 : Cond.instanceMethod yX9_remember ∈ lwX := kw 1711 (by decide +kernel) (by decide +kernel)
theorem kw99 : Cond.selects RX9 yX9_remember yX9_remember ∈ lwX := kw 99 (by decide +kernel) (by decide +kernel)
theorem kw1712 : Cond.code yX9_remember cX9_remember 3 (some .int) ∈ lwX := kw 1712 (by decide +kernel) (by decide +kernel)
theorem kw1725 : Cond.methodLink RX9 370 yX9_isChimney ∈ lwX := kw 1725 (by decide +kernel) (by decide +kernel)
theorem kw1727 : Cond.instanceMethod yX9_isChimney ∈ lwX := kw 1727 (by decide +kernel) (by decide +kernel)
theorem kw101 : Cond.selects RX9 yX9_isChimney yX9_isChimney ∈ lwX := kw 101 (by decide +kernel) (by decide +kernel)
theorem kw1728 : Cond.code yX9_isChimney cX9_isChimney 2 (some .boolean) ∈ lwX := kw 1728 (by decide +kernel) (by decide +kernel)
theorem kw1729 : Cond.methodLink RX9 373 yX9_throwsOne__ ∈ lwX := kw 1729 (by decide +kernel) (by decide +kernel)
theorem kw1731 : Cond.instanceMethod yX9_throwsOne__ ∈ lwX := kw 1731 (by decide +kernel) (by decide +kernel)
theorem kw102 : Cond.selects RX9 yX9_throwsOne__ yX9_throwsOne__ ∈ lwX := kw 102 (by decide +kernel) (by decide +kernel)
theorem kw1732 : Cond.code yX9_throwsOne__ cX9_throwsOne__ 4 (some .boolean) ∈ lwX := kw 1732 (by decide +kernel) (by decide +kernel)
theorem kw1737 : Cond.methodLink RX9 376 yX9_areSizes ∈ lwX := kw 1737 (by decide +kernel) (by decide +kernel)
theorem kw1738 : Cond.static yX9_areSizes ∈ lwX := kw 1738 (by decide +kernel) (by decide +kernel)
theorem kw1739 : Cond.code yX9_areSizes cX9_areSizes 2 (some .boolean) ∈ lwX := kw 1739 (by decide +kernel) (by decide +kernel)
theorem kw1744 : Cond.methodLink RX9 379 yX9_isCat ∈ lwX := kw 1744 (by decide +kernel) (by decide +kernel)
theorem kw1746 : Cond.instanceMethod yX9_isCat ∈ lwX := kw 1746 (by decide +kernel) (by decide +kernel)
theorem kw103 : Cond.selects RX9 yX9_isCat yX9_isCat ∈ lwX := kw 103 (by decide +kernel) (by decide +kernel)
theorem kw1747 : Cond.code yX9_isCat cX9_isCat 2 (some .boolean) ∈ lwX := kw 1747 (by decide +kernel) (by decide +kernel)
theorem kw1748 : Cond.methodLink RX9 382 yX9_isGutter ∈ lwX := kw 1748 (by decide +kernel) (by decide +kernel)
theorem kw1750 : Cond.instanceMethod yX9_isGutter ∈ lwX := kw 1750 (by decide +kernel) (by decide +kernel)
theorem kw104 : Cond.selects RX9 yX9_isGutter yX9_isGutter ∈ lwX := kw 104 (by decide +kernel) (by decide +kernel)
theorem kw1751 : Cond.code yX9_isGutter cX9_isGutter 2 (some .boolean) ∈ lwX := kw 1751 (by decide +kernel) (by decide +kernel)
theorem kw1764 : Cond.methodLink RX9 385 yX9_areCats ∈ lwX := kw 1764 (by decide +kernel) (by decide +kernel)
theorem kw1766 : Cond.instanceMethod yX9_areCats ∈ lwX := kw 1766 (by decide +kernel) (by decide +kernel)
theorem kw105 : Cond.selects RX9 yX9_areCats yX9_areCats ∈ lwX := kw 105 (by decide +kernel) (by decide +kernel)
theorem kw1767 : Cond.code yX9_areCats cX9_areCats 3 (some .boolean) ∈ lwX := kw 1767 (by decide +kernel) (by decide +kernel)
theorem kw1616 : Cond.fieldLink RX9 388 (TX9 6).1 (TX9 6).2.1 (TX9 6).2.2.1 ∈ lwX := kw 1616 (by decide +kernel) (by decide +kernel)
theorem kw1614 : Cond.fieldLink RX9 22 (TX9 4).1 (TX9 4).2.1 (TX9 4).2.2.1 ∈ lwX := kw 1614 (by decide +kernel) (by decide +kernel)
theorem kw1812 : Cond.methodLink RX9 392 yX9_told ∈ lwX := kw 1812 (by decide +kernel) (by decide +kernel)
theorem kw1814 : Cond.instanceMethod yX9_told ∈ lwX := kw 1814 (by decide +kernel) (by decide +kernel)
theorem kw106 : Cond.selects RX9 yX9_told yX9_told ∈ lwX := kw 106 (by decide +kernel) (by decide +kernel)
theorem kw1815 : Cond.code yX9_told cX9_told 2 (some .int) ∈ lwX := kw 1815 (by decide +kernel) (by decide +kernel)
theorem kw1856 : Cond.methodLink RX9 395 yX9_reachedBy ∈ lwX := kw 1856 (by decide +kernel) (by decide +kernel)
theorem kw1858 : Cond.instanceMethod yX9_reachedBy ∈ lwX := kw 1858 (by decide +kernel) (by decide +kernel)
theorem kw107 : Cond.selects RX9 yX9_reachedBy yX9_reachedBy ∈ lwX := kw 107 (by decide +kernel) (by decide +kernel)
theorem kw1859 : Cond.code yX9_reachedBy cX9_reachedBy 7 (some .int) ∈ lwX := kw 1859 (by decide +kernel) (by decide +kernel)
theorem kw1868 : Cond.methodLink RX9 398 yX9_catTold ∈ lwX := kw 1868 (by decide +kernel) (by decide +kernel)
theorem kw1870 : Cond.instanceMethod yX9_catTold ∈ lwX := kw 1870 (by decide +kernel) (by decide +kernel)
theorem kw108 : Cond.selects RX9 yX9_catTold yX9_catTold ∈ lwX := kw 108 (by decide +kernel) (by decide +kernel)
theorem kw1871 : Cond.code yX9_catTold cX9_catTold 3 (some .int) ∈ lwX := kw 1871 (by decide +kernel) (by decide +kernel)
theorem kw1896 : Cond.methodLink RX9 401 yX9_walks ∈ lwX := kw 1896 (by decide +kernel) (by decide +kernel)
theorem kw1898 : Cond.instanceMethod yX9_walks ∈ lwX := kw 1898 (by decide +kernel) (by decide +kernel)
theorem kw109 : Cond.selects RX9 yX9_walks yX9_walks ∈ lwX := kw 109 (by decide +kernel) (by decide +kernel)
theorem kw1899 : Cond.code yX9_walks cX9_walks 4 none ∈ lwX := kw 1899 (by decide +kernel) (by decide +kernel)
theorem kw1612 : Cond.fieldLink RX9 16 (TX9 2).1 (TX9 2).2.1 (TX9 2).2.2.1 ∈ lwX := kw 1612 (by decide +kernel) (by decide +kernel)
theorem kw1972 : Cond.methodLink RX9 404 yX9_allFish ∈ lwX := kw 1972 (by decide +kernel) (by decide +kernel)
theorem kw1974 : Cond.instanceMethod yX9_allFish ∈ lwX := kw 1974 (by decide +kernel) (by decide +kernel)
theorem kw111 : Cond.selects RX9 yX9_allFish yX9_allFish ∈ lwX := kw 111 (by decide +kernel) (by decide +kernel)
theorem kw1975 : Cond.code yX9_allFish cX9_allFish 3 (some .int) ∈ lwX := kw 1975 (by decide +kernel) (by decide +kernel)
theorem kw1988 : Cond.methodLink RX9 407 yX9_isCrowded ∈ lwX := kw 1988 (by decide +kernel) (by decide +kernel)
theorem kw1990 : Cond.instanceMethod yX9_isCrowded ∈ lwX := kw 1990 (by decide +kernel) (by decide +kernel)
theorem kw112 : Cond.selects RX9 yX9_isCrowded yX9_isCrowded ∈ lwX := kw 112 (by decide +kernel) (by decide +kernel)
theorem kw1991 : Cond.code yX9_isCrowded cX9_isCrowded 4 (some .boolean) ∈ lwX := kw 1991 (by decide +kernel) (by decide +kernel)
theorem kw1624 : Cond.fieldLink RX9 38 (TX9 14).1 (TX9 14).2.1 (TX9 14).2.2.1 ∈ lwX := kw 1624 (by decide +kernel) (by decide +kernel)
theorem kw1625 : Cond.fieldLink RX9 410 (TX9 15).1 (TX9 15).2.1 (TX9 15).2.2.1 ∈ lwX := kw 1625 (by decide +kernel) (by decide +kernel)
theorem kw1996 : Cond.methodLink RX9 413 yX9_write ∈ lwX := kw 1996 (by decide +kernel) (by decide +kernel)
theorem kw1998 : Cond.instanceMethod yX9_write ∈ lwX := kw 1998 (by decide +kernel) (by decide +kernel)
theorem kw113 : Cond.selects RX9 yX9_write yX9_write ∈ lwX := kw 113 (by decide +kernel) (by decide +kernel)
theorem kw1999 : Cond.code yX9_write cX9_write 2 none ∈ lwX := kw 1999 (by decide +kernel) (by decide +kernel)
theorem kw2000 : Cond.methodLink RX9 416 yX9_writeCat ∈ lwX := kw 2000 (by decide +kernel) (by decide +kernel)
theorem kw2002 : Cond.instanceMethod yX9_writeCat ∈ lwX := kw 2002 (by decide +kernel) (by decide +kernel)
theorem kw114 : Cond.selects RX9 yX9_writeCat yX9_writeCat ∈ lwX := kw 114 (by decide +kernel) (by decide +kernel)
theorem kw2003 : Cond.code yX9_writeCat cX9_writeCat 3 none ∈ lwX := kw 2003 (by decide +kernel) (by decide +kernel)
theorem kw1347 : Cond.instanceMethod yX9_readsCommand ∈ lwX := kw 1347 (by decide +kernel) (by decide +kernel)
theorem kw35 : Cond.selects RX9 yX9_readsCommand yX9_readsCommand ∈ lwX := kw 35 (by decide +kernel) (by decide +kernel)
theorem kw1348 : Cond.code yX9_readsCommand cX9_readsCommand 3 (some .boolean) ∈ lwX := kw 1348 (by decide +kernel) (by decide +kernel)
theorem kw1345 : Cond.methodLink RX9 264 yX9_readsCommand ∈ lwX := kw 1345 (by decide +kernel) (by decide +kernel)
theorem kw1349 : Cond.methodLink RX9 299 yX9_wordAhead ∈ lwX := kw 1349 (by decide +kernel) (by decide +kernel)
theorem kw1351 : Cond.instanceMethod yX9_wordAhead ∈ lwX := kw 1351 (by decide +kernel) (by decide +kernel)
theorem kw36 : Cond.selects RX9 yX9_wordAhead yX9_wordAhead ∈ lwX := kw 36 (by decide +kernel) (by decide +kernel)
theorem kw1352 : Cond.code yX9_wordAhead cX9_wordAhead 1 (some .int) ∈ lwX := kw 1352 (by decide +kernel) (by decide +kernel)
theorem kw1631 : Cond.fieldLink RX9 305 (TX9 21).1 (TX9 21).2.1 (TX9 21).2.2.1 ∈ lwX := kw 1631 (by decide +kernel) (by decide +kernel)
theorem kw1381 : Cond.methodLink RX9 308 yX9_readsWord ∈ lwX := kw 1381 (by decide +kernel) (by decide +kernel)
theorem kw1383 : Cond.instanceMethod yX9_readsWord ∈ lwX := kw 1383 (by decide +kernel) (by decide +kernel)
theorem kw40 : Cond.selects RX9 yX9_readsWord yX9_readsWord ∈ lwX := kw 40 (by decide +kernel) (by decide +kernel)
theorem kw1384 : Cond.code yX9_readsWord cX9_readsWord 2 (some .boolean) ∈ lwX := kw 1384 (by decide +kernel) (by decide +kernel)
theorem kw1372 : Cond.instanceMethod yX9_readsRepeat ∈ lwX := kw 1372 (by decide +kernel) (by decide +kernel)
theorem kw38 : Cond.selects RX9 yX9_readsRepeat yX9_readsRepeat ∈ lwX := kw 38 (by decide +kernel) (by decide +kernel)
theorem kw1373 : Cond.code yX9_readsRepeat cX9_readsRepeat 5 (some .boolean) ∈ lwX := kw 1373 (by decide +kernel) (by decide +kernel)
theorem kw1370 : Cond.methodLink RX9 302 yX9_readsRepeat ∈ lwX := kw 1370 (by decide +kernel) (by decide +kernel)
theorem m_X9_choir : xMem yX9_choir RX9 cX9_choir 7 (some .int) 1 := ⟨kw1608, kw95, kw125, kw1609, by decide +kernel, by decide +kernel, by decide +kernel, by decide +kernel⟩
theorem m_X9_greatestChoir : xMem yX9_greatestChoir RX9 cX9_greatestChoir 4 (some .int) 0 := ⟨kw1604, kw94, kw125, kw1605, by decide +kernel, by decide +kernel, by decide +kernel, by decide +kernel⟩
theorem m_X9_feeds : xMem yX9_feeds RX9 cX9_feeds 4 none 2 := ⟨kw1591, kw91, kw125, kw1592, by decide +kernel, by decide +kernel, by decide +kernel, by decide +kernel⟩
theorem m_X9_eats : xMem yX9_eats RX9 cX9_eats 2 none 1 := ⟨kw1596, kw92, kw125, kw1597, by decide +kernel, by decide +kernel, by decide +kernel, by decide +kernel⟩
theorem m_X9_sings : xMem yX9_sings RX9 cX9_sings 3 none 0 := ⟨kw1600, kw93, kw125, kw1601, by decide +kernel, by decide +kernel, by decide +kernel, by decide +kernel⟩
theorem m_X9_passes : xMem yX9_passes RX9 cX9_passes 4 (some .int) 1 := ⟨kw1587, kw90, kw125, kw1588, by decide +kernel, by decide +kernel, by decide +kernel, by decide +kernel⟩
theorem m_X9_readsChimney : xMem yX9_readsChimney RX9 cX9_readsChimney 1 (some .boolean) 0 := ⟨kw1387, kw41, kw125, kw1388, by decide +kernel, by decide +kernel, by decide +kernel, by decide +kernel⟩
theorem m_X9_readsGutter : xMem yX9_readsGutter RX9 cX9_readsGutter 1 (some .boolean) 0 := ⟨kw1399, kw44, kw125, kw1400, by decide +kernel, by decide +kernel, by decide +kernel, by decide +kernel⟩
theorem m_X9_readsCat : xMem yX9_readsCat RX9 cX9_readsCat 1 (some .boolean) 0 := ⟨kw1415, kw48, kw125, kw1416, by decide +kernel, by decide +kernel, by decide +kernel, by decide +kernel⟩
theorem m_X9_readsStep : xMem yX9_readsStep RX9 cX9_readsStep 1 (some .boolean) 0 := ⟨kw1443, kw55, kw125, kw1444, by decide +kernel, by decide +kernel, by decide +kernel, by decide +kernel⟩
theorem m_X9_readsClaim : xMem yX9_readsClaim RX9 cX9_readsClaim 1 (some .boolean) 0 := ⟨kw1480, kw64, kw125, kw1481, by decide +kernel, by decide +kernel, by decide +kernel, by decide +kernel⟩
theorem m_X9_readsAbandon : xMem yX9_readsAbandon RX9 cX9_readsAbandon 1 (some .boolean) 0 := ⟨kw1496, kw68, kw125, kw1497, by decide +kernel, by decide +kernel, by decide +kernel, by decide +kernel⟩
theorem m_X9_readsChase : xMem yX9_readsChase RX9 cX9_readsChase 1 (some .boolean) 0 := ⟨kw1504, kw70, kw125, kw1505, by decide +kernel, by decide +kernel, by decide +kernel, by decide +kernel⟩
theorem m_X9_readsTruce : xMem yX9_readsTruce RX9 cX9_readsTruce 1 (some .boolean) 0 := ⟨kw1532, kw77, kw125, kw1533, by decide +kernel, by decide +kernel, by decide +kernel, by decide +kernel⟩
theorem m_X9_readsKitten : xMem yX9_readsKitten RX9 cX9_readsKitten 1 (some .boolean) 0 := ⟨kw1544, kw80, kw125, kw1545, by decide +kernel, by decide +kernel, by decide +kernel, by decide +kernel⟩
theorem m_X9_readsVote : xMem yX9_readsVote RX9 cX9_readsVote 2 (some .boolean) 1 := ⟨kw1560, kw84, kw125, kw1561, by decide +kernel, by decide +kernel, by decide +kernel, by decide +kernel⟩
theorem m_X9_readsNights : xMem yX9_readsNights RX9 cX9_readsNights 1 (some .boolean) 0 := ⟨kw1583, kw89, kw125, kw1584, by decide +kernel, by decide +kernel, by decide +kernel, by decide +kernel⟩
theorem m_X9_spreads : xMem yX9_spreads RX9 cX9_spreads 6 none 3 := ⟨kw1902, kw110, kw125, kw1903, by decide +kernel, by decide +kernel, by decide +kernel, by decide +kernel⟩
theorem m_X9_type : xMem yX9_type RX9 cX9_type 3 none 1 := ⟨kw1691, kw96, kw125, kw1692, by decide +kernel, by decide +kernel, by decide +kernel, by decide +kernel⟩
theorem m_X9_throwsOne : xMem yX9_throwsOne RX9 cX9_throwsOne 2 (some .boolean) 1 := ⟨kw1699, kw97, kw125, kw1700, by decide +kernel, by decide +kernel, by decide +kernel, by decide +kernel⟩
theorem m_X9_throwsOne_ : xMem yX9_throwsOne_ RX9 cX9_throwsOne_ 3 (some .boolean) 2 := ⟨kw1719, kw100, kw125, kw1720, by decide +kernel, by decide +kernel, by decide +kernel, by decide +kernel⟩
theorem m_X9_begins : xMem yX9_begins RX9 cX9_begins 2 none 0 := ⟨kw1707, kw98, kw125, kw1708, by decide +kernel, by decide +kernel, by decide +kernel, by decide +kernel⟩
theorem m_X9_remember : xMem yX9_remember RX9 cX9_remember 3 (some .int) 1 := ⟨kw1711, kw99, kw125, kw1712, by decide +kernel, by decide +kernel, by decide +kernel, by decide +kernel⟩
theorem m_X9_isChimney : xMem yX9_isChimney RX9 cX9_isChimney 2 (some .boolean) 1 := ⟨kw1727, kw101, kw125, kw1728, by decide +kernel, by decide +kernel, by decide +kernel, by decide +kernel⟩
theorem m_X9_throwsOne__ : xMem yX9_throwsOne__ RX9 cX9_throwsOne__ 4 (some .boolean) 3 := ⟨kw1731, kw102, kw125, kw1732, by decide +kernel, by decide +kernel, by decide +kernel, by decide +kernel⟩
theorem m_X9_areSizes : xMemS yX9_areSizes cX9_areSizes 2 (some .boolean) 2 := ⟨kw1738, kw125, kw1739, by decide +kernel, by decide +kernel, by decide +kernel⟩
theorem m_X9_isCat : xMem yX9_isCat RX9 cX9_isCat 2 (some .boolean) 1 := ⟨kw1746, kw103, kw125, kw1747, by decide +kernel, by decide +kernel, by decide +kernel, by decide +kernel⟩
theorem m_X9_isGutter : xMem yX9_isGutter RX9 cX9_isGutter 2 (some .boolean) 1 := ⟨kw1750, kw104, kw125, kw1751, by decide +kernel, by decide +kernel, by decide +kernel, by decide +kernel⟩
theorem m_X9_areCats : xMem yX9_areCats RX9 cX9_areCats 3 (some .boolean) 2 := ⟨kw1766, kw105, kw125, kw1767, by decide +kernel, by decide +kernel, by decide +kernel, by decide +kernel⟩
theorem m_X9_told : xMem yX9_told RX9 cX9_told 2 (some .int) 1 := ⟨kw1814, kw106, kw125, kw1815, by decide +kernel, by decide +kernel, by decide +kernel, by decide +kernel⟩
theorem m_X9_reachedBy : xMem yX9_reachedBy RX9 cX9_reachedBy 7 (some .int) 2 := ⟨kw1858, kw107, kw125, kw1859, by decide +kernel, by decide +kernel, by decide +kernel, by decide +kernel⟩
theorem m_X9_catTold : xMem yX9_catTold RX9 cX9_catTold 3 (some .int) 2 := ⟨kw1870, kw108, kw125, kw1871, by decide +kernel, by decide +kernel, by decide +kernel, by decide +kernel⟩
theorem m_X9_walks : xMem yX9_walks RX9 cX9_walks 4 none 1 := ⟨kw1898, kw109, kw125, kw1899, by decide +kernel, by decide +kernel, by decide +kernel, by decide +kernel⟩
theorem m_X9_allFish : xMem yX9_allFish RX9 cX9_allFish 3 (some .int) 0 := ⟨kw1974, kw111, kw125, kw1975, by decide +kernel, by decide +kernel, by decide +kernel, by decide +kernel⟩
theorem m_X9_isCrowded : xMem yX9_isCrowded RX9 cX9_isCrowded 4 (some .boolean) 1 := ⟨kw1990, kw112, kw125, kw1991, by decide +kernel, by decide +kernel, by decide +kernel, by decide +kernel⟩
theorem m_X9_write : xMem yX9_write RX9 cX9_write 2 none 1 := ⟨kw1998, kw113, kw125, kw1999, by decide +kernel, by decide +kernel, by decide +kernel, by decide +kernel⟩
theorem m_X9_writeCat : xMem yX9_writeCat RX9 cX9_writeCat 3 none 2 := ⟨kw2002, kw114, kw125, kw2003, by decide +kernel, by decide +kernel, by decide +kernel, by decide +kernel⟩
theorem m_X9_readsCommand : xMem yX9_readsCommand RX9 cX9_readsCommand 3 (some .boolean) 1 := ⟨kw1347, kw35, kw125, kw1348, by decide +kernel, by decide +kernel, by decide +kernel, by decide +kernel⟩
theorem m_X9_wordAhead : xMem yX9_wordAhead RX9 cX9_wordAhead 1 (some .int) 0 := ⟨kw1351, kw36, kw125, kw1352, by decide +kernel, by decide +kernel, by decide +kernel, by decide +kernel⟩
theorem m_X9_readsWord : xMem yX9_readsWord RX9 cX9_readsWord 2 (some .boolean) 1 := ⟨kw1383, kw40, kw125, kw1384, by decide +kernel, by decide +kernel, by decide +kernel, by decide +kernel⟩
theorem m_X9_readsRepeat : xMem yX9_readsRepeat RX9 cX9_readsRepeat 5 (some .boolean) 1 := ⟨kw1372, kw38, kw125, kw1373, by decide +kernel, by decide +kernel, by decide +kernel, by decide +kernel⟩
set_option maxHeartbeats 4000000 in
set_option maxRecDepth 100000 in
theorem c_X9_eats (l : Launch) (D : va_G) (cy : Nat → ClassId) (s00 : State) (ad : Nat → Nat) (S : XS) (p0 : Int32) (S9 : XS) (hf : f_X9_eats S p0 = some S9) : XV l yX9_eats cX9_eats 2 none 1 D cy s00 shMod ad S [.ref (ad 0), .int p0] S9 := by
  refine XV.of (by decide) [(0, .ref (ad 0)), (1, .int p0)] rfl (Nat.le_of_ble_eq_true rfl) (fun p e s m args below meth c A ls E h hl => ?_)
  unfold f_X9_eats at hf
  refine lv_aload_n E.1 E.2.1 dX9_eats_0 rfl (lv_at hl 0 rfl) ?_
  refine lv_iload_n E.1 E.2.1 dX9_eats_1 rfl (lv_at hl 1 rfl) ?_
  refine lv_iconst (v := 2) E.1 E.2.1 dX9_eats_2 (by decide) ?_
  refine x_callp E h hl 0 hf (fun r0 hr => c_X9_of l D cy s00 _ S p0 2 r0 hr) m_X9_of rfl rfl kw1429 rfl rfl (Nat.le_of_ble_eq_true rfl) ⟨by decide, by decide⟩ ⟨Nat.zero_le _, Nat.zero_le _⟩ dX9_eats_3 (fun v1 H locs hf h => ?_)
  refine x_br hf (lv_if_le (tgt := 34) E.1 E.2.1 dX9_eats_6 (by decide)) (fun hf => ?_) (fun hf => ?_)
  · exact x_vret E h hf dX9_eats_34
  · refine lv_aload_n E.1 E.2.1 dX9_eats_9 rfl (lv_at hl 0 rfl) ?_
    refine lv_iload_n E.1 E.2.1 dX9_eats_10 rfl (lv_at hl 1 rfl) ?_
    refine lv_iconst (v := 2) E.1 E.2.1 dX9_eats_11 (by decide) ?_
    refine lv_aload_n E.1 E.2.1 dX9_eats_12 rfl (lv_at hl 0 rfl) ?_
    refine lv_iload_n E.1 E.2.1 dX9_eats_13 rfl (lv_at hl 1 rfl) ?_
    refine lv_iconst (v := 2) E.1 E.2.1 dX9_eats_14 (by decide) ?_
    refine x_callp E h hl 0 hf (fun r0 hr => c_X9_of l D cy s00 _ S p0 2 r0 hr) m_X9_of rfl rfl kw1429 rfl rfl (Nat.le_of_ble_eq_true rfl) ⟨by decide, by decide⟩ ⟨Nat.zero_le _, Nat.zero_le _⟩ dX9_eats_15 (fun v2 H locs hf h => ?_)
    refine lv_iconst (v := 1) E.1 E.2.1 dX9_eats_18 (by decide) ?_
    refine lv_isub E.1 E.2.1 dX9_eats_19 ?_
    refine x_callv E h hl 0 hf (fun r0 hr => c_X9_to l D cy s00 _ S p0 2 (v2 - 1) r0 hr) m_X9_to rfl rfl kw1437 rfl rfl (Nat.le_of_ble_eq_true rfl) ⟨by decide, by decide⟩ ⟨Nat.zero_le _, Nat.zero_le _⟩ dX9_eats_20 (fun S3 H locs hf h => ?_)
    refine lv_aload_n E.1 E.2.1 dX9_eats_23 rfl (lv_at hl 0 rfl) ?_
    refine x_getr E h 0 0 1 rfl rfl rfl (by decide) xinX9 kw1610 dX9_eats_24 ?_
    refine lv_bipush (v := 9) E.1 E.2.1 dX9_eats_27 (by decide) ?_
    refine lv_dup2_11 E.1 E.2.1 dX9_eats_29 rfl rfl ?_
    refine x_iald E h 1 hf rfl dX9_eats_30 (fun v4 hf => ?_)
    refine lv_iconst (v := 1) E.1 E.2.1 dX9_eats_31 (by decide) ?_
    refine lv_iadd E.1 E.2.1 dX9_eats_32 ?_
    refine x_iast E h 1 hf rfl dX9_eats_33 (fun S5 H locs hf h => ?_)
    exact x_vret E h hf dX9_eats_34
set_option maxHeartbeats 4000000 in
set_option maxRecDepth 100000 in
theorem w_X9_choir_L33 {p : Program} {l : Launch} {e : Env} {s : State} {m : MethodId} {args : Array Value} {below : List Frame} {meth : Method} {c : Code} {D : va_G} {cy : Nat → ClassId} {s00 : State} {ad : Nat → Nat} {A : Nat → Prop}  {r9 : Int32} {u1 : Int32} {u3 : Int32} {u4 : Int32} {S : XS} {K : Int32 → Int32 → Option (Int32)} (E : XE p s m args meth c cX9_choir 7 RX9 (some .int) D cy s00) (hk : ∀ (m2 m5 : Int32) (H : Heap) (locs : List Loc) (ls : Array Slot), K m2 m5 = some r9 → XH D cy s00 shMod ad S A s H locs → lv_has ls 7 [(0, .ref (ad 0)), (1, .int u1), (2, .int m2), (3, .int u3), (4, .int u4), (5, .int m5)] → W p l e (xrm 3) s m args below meth c H locs 0 0 (MQ below (xqi D cy shMod ad r9 S A) args s 0 0 A) (F0 m 104 ls [])) :
    ∀ (n : Nat) (m2 m5 : Int32) (H : Heap) (locs : List Loc) (ls : Array Slot), f_X9_choir_L33 K S u1 u3 u4 n m2 m5 = some r9 → XH D cy s00 shMod ad S A s H locs → lv_has ls 7 [(0, .ref (ad 0)), (1, .int u1), (2, .int m2), (3, .int u3), (4, .int u4), (5, .int m5)] → W p l e (xrm 3) s m args below meth c H locs 0 0 (MQ below (xqi D cy shMod ad r9 S A) args s 0 0 A) (F0 m 33 ls []) := by
  intro n
  induction n with
  | zero => intro m2 m5 H locs ls hf; cases hf
  | succ n ih =>
    intro m2 m5 H locs ls hf h hl
    rw [f_X9_choir_L33] at hf
    refine lv_iload E.1 E.2.1 dX9_choir_33 (lv_at hl 5 rfl) ?_
    refine lv_aload_n E.1 E.2.1 dX9_choir_35 rfl (lv_at hl 0 rfl) ?_
    refine x_getr E h 0 0 1 rfl rfl rfl (by decide) xinX9 kw1610 dX9_choir_36 ?_
    refine lv_iconst (v := 2) E.1 E.2.1 dX9_choir_39 (by decide) ?_
    refine x_iald E h 1 hf rfl dX9_choir_40 (fun v4 hf => ?_)
    refine x_br hf (lv_icmp_ge (tgt := 104) E.1 E.2.1 dX9_choir_41 (by decide)) (fun hf => ?_) (fun hf => ?_)
    · exact hk _ _ _ _ _ hf h (lv_sub hl [0, 1, 2, 3, 4, 5] rfl)
    · refine lv_iload_n E.1 E.2.1 dX9_choir_44 rfl (lv_at hl 2 rfl) ?_
      refine lv_iload E.1 E.2.1 dX9_choir_45 (lv_at hl 4 rfl) ?_
      refine lv_ishr E.1 E.2.1 dX9_choir_47 ?_
      refine lv_iconst (v := 1) E.1 E.2.1 dX9_choir_48 (by decide) ?_
      refine lv_iand E.1 E.2.1 dX9_choir_49 ?_
      refine lv_iconst (v := 1) E.1 E.2.1 dX9_choir_50 (by decide) ?_
      refine x_brn hf (lv_icmp_ne (tgt := 79) E.1 E.2.1 dX9_choir_51 (by decide)) (fun hf => ?_) (fun hf => ?_)
      · refine lv_iconst (v := 0) E.1 E.2.1 dX9_choir_79 (by decide) ?_
        refine lv_istore (lv' := [(6, .int 0), (0, .ref (ad 0)), (1, .int u1), (2, .int m2), (3, .int u3), (4, .int u4), (5, .int m5)]) E.1 E.2.1 dX9_choir_80 hl (by decide) rfl (fun ls hl => ?_)
        refine lv_iload_n E.1 E.2.1 dX9_choir_82 rfl (lv_at hl 3 rfl) ?_
        refine lv_iload E.1 E.2.1 dX9_choir_83 (lv_at hl 0 rfl) ?_
        refine lv_if_eq (tgt := 95) E.1 E.2.1 dX9_choir_85 (by decide) (fun _ => ?_) (fun c9 => absurd c9 (by decide))
        refine lv_iconst (v := 0) E.1 E.2.1 dX9_choir_95 (by decide) ?_
        refine lv_ior E.1 E.2.1 dX9_choir_96 ?_
        refine x_nm hf (fun v5 hf => ?_)
        refine lv_istore_n (lv' := [(2, .int v5), (6, .int 0), (0, .ref (ad 0)), (1, .int u1), (3, .int u3), (4, .int u4), (5, .int m5)]) E.1 E.2.1 dX9_choir_97 rfl hl (by decide) rfl (fun ls hl => ?_)
        refine x_nv hf (fun v6 e9 hf => ?_)
        refine lv_iinc (v := v6) (lv' := [(5, .int v6), (2, .int v5), (6, .int 0), (0, .ref (ad 0)), (1, .int u1), (3, .int u3), (4, .int u4)]) E.1 E.2.1 dX9_choir_98 hl (k := 6) rfl (by rw [e9]; rfl) (by decide) rfl (fun ls hl => ?_)
        refine lv_goto (tgt := 33) E.1 E.2.1 dX9_choir_101 (by decide) ?_
        exact ih _ _ _ _ _ hf h (lv_sub hl [3, 4, 1, 5, 6, 0] rfl)
      · refine lv_aload_n E.1 E.2.1 dX9_choir_54 rfl (lv_at hl 0 rfl) ?_
        refine lv_aload_n E.1 E.2.1 dX9_choir_55 rfl (lv_at hl 0 rfl) ?_
        refine lv_iload E.1 E.2.1 dX9_choir_56 (lv_at hl 4 rfl) ?_
        refine lv_iconst (v := 3) E.1 E.2.1 dX9_choir_58 (by decide) ?_
        refine x_callp E h hl 0 hf (fun r0 hr => c_X9_of l D cy s00 _ S u4 3 r0 hr) m_X9_of rfl rfl kw1429 rfl rfl (Nat.le_of_ble_eq_true rfl) ⟨by decide, by decide⟩ ⟨Nat.zero_le _, Nat.zero_le _⟩ dX9_choir_59 (fun v7 H locs hf h => ?_)
        refine lv_aload_n E.1 E.2.1 dX9_choir_62 rfl (lv_at hl 0 rfl) ?_
        refine lv_iload E.1 E.2.1 dX9_choir_63 (lv_at hl 5 rfl) ?_
        refine lv_iconst (v := 3) E.1 E.2.1 dX9_choir_65 (by decide) ?_
        refine x_callp E h hl 0 hf (fun r0 hr => c_X9_of l D cy s00 _ S m5 3 r0 hr) m_X9_of rfl rfl kw1429 rfl rfl (Nat.le_of_ble_eq_true rfl) ⟨by decide, by decide⟩ ⟨Nat.zero_le _, Nat.zero_le _⟩ dX9_choir_66 (fun v8 H locs hf h => ?_)
        refine x_callp E h hl 0 hf (fun r0 hr => c_X9_widestBetween l D cy s00 _ S v7 v8 r0 hr) m_X9_widestBetween rfl rfl kw1510 rfl rfl (Nat.le_of_ble_eq_true rfl) ⟨by decide, by decide⟩ ⟨Nat.zero_le _, Nat.zero_le _⟩ dX9_choir_69 (fun v9 H locs hf h => ?_)
        refine x_br hf (lv_if_le (tgt := 79) E.1 E.2.1 dX9_choir_72 (by decide)) (fun hf => ?_) (fun hf => ?_)
        · refine lv_iconst (v := 0) E.1 E.2.1 dX9_choir_79 (by decide) ?_
          refine lv_istore (lv' := [(6, .int 0), (0, .ref (ad 0)), (1, .int u1), (2, .int m2), (3, .int u3), (4, .int u4), (5, .int m5)]) E.1 E.2.1 dX9_choir_80 hl (by decide) rfl (fun ls hl => ?_)
          refine lv_iload_n E.1 E.2.1 dX9_choir_82 rfl (lv_at hl 3 rfl) ?_
          refine lv_iload E.1 E.2.1 dX9_choir_83 (lv_at hl 0 rfl) ?_
          refine lv_if_eq (tgt := 95) E.1 E.2.1 dX9_choir_85 (by decide) (fun _ => ?_) (fun c9 => absurd c9 (by decide))
          refine lv_iconst (v := 0) E.1 E.2.1 dX9_choir_95 (by decide) ?_
          refine lv_ior E.1 E.2.1 dX9_choir_96 ?_
          refine x_nm hf (fun v10 hf => ?_)
          refine lv_istore_n (lv' := [(2, .int v10), (6, .int 0), (0, .ref (ad 0)), (1, .int u1), (3, .int u3), (4, .int u4), (5, .int m5)]) E.1 E.2.1 dX9_choir_97 rfl hl (by decide) rfl (fun ls hl => ?_)
          refine x_nv hf (fun v11 e9 hf => ?_)
          refine lv_iinc (v := v11) (lv' := [(5, .int v11), (2, .int v10), (6, .int 0), (0, .ref (ad 0)), (1, .int u1), (3, .int u3), (4, .int u4)]) E.1 E.2.1 dX9_choir_98 hl (k := 6) rfl (by rw [e9]; rfl) (by decide) rfl (fun ls hl => ?_)
          refine lv_goto (tgt := 33) E.1 E.2.1 dX9_choir_101 (by decide) ?_
          exact ih _ _ _ _ _ hf h (lv_sub hl [3, 4, 1, 5, 6, 0] rfl)
        · refine lv_iconst (v := 1) E.1 E.2.1 dX9_choir_75 (by decide) ?_
          refine lv_goto (tgt := 80) E.1 E.2.1 dX9_choir_76 (by decide) ?_
          refine lv_istore (lv' := [(6, .int 1), (0, .ref (ad 0)), (1, .int u1), (2, .int m2), (3, .int u3), (4, .int u4), (5, .int m5)]) E.1 E.2.1 dX9_choir_80 hl (by decide) rfl (fun ls hl => ?_)
          refine lv_iload_n E.1 E.2.1 dX9_choir_82 rfl (lv_at hl 3 rfl) ?_
          refine lv_iload E.1 E.2.1 dX9_choir_83 (lv_at hl 0 rfl) ?_
          refine lv_if_eq (tgt := 95) E.1 E.2.1 dX9_choir_85 (by decide) (fun c9 => absurd c9 (by decide)) (fun _ => ?_)
          refine lv_iconst (v := 1) E.1 E.2.1 dX9_choir_88 (by decide) ?_
          refine lv_iload E.1 E.2.1 dX9_choir_89 (lv_at hl 6 rfl) ?_
          refine lv_ishl E.1 E.2.1 dX9_choir_91 ?_
          refine lv_goto (tgt := 96) E.1 E.2.1 dX9_choir_92 (by decide) ?_
          refine lv_ior E.1 E.2.1 dX9_choir_96 ?_
          refine x_nm hf (fun v12 hf => ?_)
          refine lv_istore_n (lv' := [(2, .int v12), (6, .int 1), (0, .ref (ad 0)), (1, .int u1), (3, .int u3), (4, .int u4), (5, .int m5)]) E.1 E.2.1 dX9_choir_97 rfl hl (by decide) rfl (fun ls hl => ?_)
          refine x_nv hf (fun v13 e9 hf => ?_)
          refine lv_iinc (v := v13) (lv' := [(5, .int v13), (2, .int v12), (6, .int 1), (0, .ref (ad 0)), (1, .int u1), (3, .int u3), (4, .int u4)]) E.1 E.2.1 dX9_choir_98 hl (k := 6) rfl (by rw [e9]; rfl) (by decide) rfl (fun ls hl => ?_)
          refine lv_goto (tgt := 33) E.1 E.2.1 dX9_choir_101 (by decide) ?_
          exact ih _ _ _ _ _ hf h (lv_sub hl [3, 4, 1, 5, 6, 0] rfl)
set_option maxHeartbeats 4000000 in
set_option maxRecDepth 100000 in
theorem w_X9_choir_L19 {p : Program} {l : Launch} {e : Env} {s : State} {m : MethodId} {args : Array Value} {below : List Frame} {meth : Method} {c : Code} {D : va_G} {cy : Nat → ClassId} {s00 : State} {ad : Nat → Nat} {A : Nat → Prop}  {r9 : Int32} {u1 : Int32} {u3 : Int32} {S : XS} {K : Int32 → Int32 → Option (Int32)} (E : XE p s m args meth c cX9_choir 7 RX9 (some .int) D cy s00) (hk : ∀ (m2 m4 : Int32) (H : Heap) (locs : List Loc) (ls : Array Slot), K m2 m4 = some r9 → XH D cy s00 shMod ad S A s H locs → lv_has ls 7 [(0, .ref (ad 0)), (1, .int u1), (2, .int m2), (3, .int u3), (4, .int m4)] → W p l e (xrm 3) s m args below meth c H locs 0 0 (MQ below (xqi D cy shMod ad r9 S A) args s 0 0 A) (F0 m 110 ls [])) :
    ∀ (n : Nat) (m2 m4 : Int32) (H : Heap) (locs : List Loc) (ls : Array Slot), f_X9_choir_L19 K S u1 u3 n m2 m4 = some r9 → XH D cy s00 shMod ad S A s H locs → lv_has ls 7 [(0, .ref (ad 0)), (1, .int u1), (2, .int m2), (3, .int u3), (4, .int m4)] → W p l e (xrm 3) s m args below meth c H locs 0 0 (MQ below (xqi D cy shMod ad r9 S A) args s 0 0 A) (F0 m 19 ls []) := by
  intro n
  induction n with
  | zero => intro m2 m4 H locs ls hf; cases hf
  | succ n ih =>
    intro m2 m4 H locs ls hf h hl
    rw [f_X9_choir_L19] at hf
    refine lv_iload E.1 E.2.1 dX9_choir_19 (lv_at hl 4 rfl) ?_
    refine lv_aload_n E.1 E.2.1 dX9_choir_21 rfl (lv_at hl 0 rfl) ?_
    refine x_getr E h 0 0 1 rfl rfl rfl (by decide) xinX9 kw1610 dX9_choir_22 ?_
    refine lv_iconst (v := 2) E.1 E.2.1 dX9_choir_25 (by decide) ?_
    refine x_iald E h 1 hf rfl dX9_choir_26 (fun v3 hf => ?_)
    refine x_br hf (lv_icmp_ge (tgt := 110) E.1 E.2.1 dX9_choir_27 (by decide)) (fun hf => ?_) (fun hf => ?_)
    · exact hk _ _ _ _ _ hf h (lv_sub hl [0, 1, 2, 3, 4] rfl)
    · refine lv_iconst (v := 0) E.1 E.2.1 dX9_choir_30 (by decide) ?_
      refine lv_istore (lv' := [(5, .int 0), (0, .ref (ad 0)), (1, .int u1), (2, .int m2), (3, .int u3), (4, .int m4)]) E.1 E.2.1 dX9_choir_31 hl (by decide) rfl (fun ls hl => ?_)
      refine w_X9_choir_L33 E ?_ _ _ _ _ _ _ hf h (lv_sub hl [1, 2, 3, 4, 5, 0] rfl)
      intro v14 v15 H locs ls hf h hl
      refine x_nv hf (fun v16 e9 hf => ?_)
      refine lv_iinc (v := v16) (lv' := [(4, .int v16), (0, .ref (ad 0)), (1, .int u1), (2, .int v14), (3, .int u3), (5, .int v15)]) E.1 E.2.1 dX9_choir_104 hl (k := 4) rfl (by rw [e9]; rfl) (by decide) rfl (fun ls hl => ?_)
      refine lv_goto (tgt := 19) E.1 E.2.1 dX9_choir_107 (by decide) ?_
      exact ih _ _ _ _ _ hf h (lv_sub hl [1, 2, 3, 4, 0] rfl)
set_option maxHeartbeats 4000000 in
set_option maxRecDepth 100000 in
theorem w_X9_choir_L6 {p : Program} {l : Launch} {e : Env} {s : State} {m : MethodId} {args : Array Value} {below : List Frame} {meth : Method} {c : Code} {D : va_G} {cy : Nat → ClassId} {s00 : State} {ad : Nat → Nat} {A : Nat → Prop}  {r9 : Int32} {u1 : Int32} {S : XS} {K : Int32 → Int32 → Option (Int32)} (E : XE p s m args meth c cX9_choir 7 RX9 (some .int) D cy s00) (hk : ∀ (m2 m3 : Int32) (H : Heap) (locs : List Loc) (ls : Array Slot), K m2 m3 = some r9 → XH D cy s00 shMod ad S A s H locs → lv_has ls 7 [(0, .ref (ad 0)), (1, .int u1), (2, .int m2), (3, .int m3)] → W p l e (xrm 3) s m args below meth c H locs 0 0 (MQ below (xqi D cy shMod ad r9 S A) args s 0 0 A) (F0 m 116 ls [])) :
    ∀ (n : Nat) (m2 m3 : Int32) (H : Heap) (locs : List Loc) (ls : Array Slot), f_X9_choir_L6 K S u1 n m2 m3 = some r9 → XH D cy s00 shMod ad S A s H locs → lv_has ls 7 [(0, .ref (ad 0)), (1, .int u1), (2, .int m2), (3, .int m3)] → W p l e (xrm 3) s m args below meth c H locs 0 0 (MQ below (xqi D cy shMod ad r9 S A) args s 0 0 A) (F0 m 6 ls []) := by
  intro n
  induction n with
  | zero => intro m2 m3 H locs ls hf; cases hf
  | succ n ih =>
    intro m2 m3 H locs ls hf h hl
    rw [f_X9_choir_L6] at hf
    refine lv_iload_n E.1 E.2.1 dX9_choir_6 rfl (lv_at hl 3 rfl) ?_
    refine lv_aload_n E.1 E.2.1 dX9_choir_7 rfl (lv_at hl 0 rfl) ?_
    refine x_getr E h 0 0 1 rfl rfl rfl (by decide) xinX9 kw1610 dX9_choir_8 ?_
    refine lv_iconst (v := 2) E.1 E.2.1 dX9_choir_11 (by decide) ?_
    refine x_iald E h 1 hf rfl dX9_choir_12 (fun v2 hf => ?_)
    refine x_br hf (lv_icmp_ge (tgt := 116) E.1 E.2.1 dX9_choir_13 (by decide)) (fun hf => ?_) (fun hf => ?_)
    · exact hk _ _ _ _ _ hf h (lv_sub hl [0, 1, 2, 3] rfl)
    · refine lv_iconst (v := 0) E.1 E.2.1 dX9_choir_16 (by decide) ?_
      refine lv_istore (lv' := [(4, .int 0), (0, .ref (ad 0)), (1, .int u1), (2, .int m2), (3, .int m3)]) E.1 E.2.1 dX9_choir_17 hl (by decide) rfl (fun ls hl => ?_)
      refine w_X9_choir_L19 E ?_ _ _ _ _ _ _ hf h (lv_sub hl [1, 2, 3, 4, 0] rfl)
      intro v17 v18 H locs ls hf h hl
      refine x_nv hf (fun v19 e9 hf => ?_)
      refine lv_iinc (v := v19) (lv' := [(3, .int v19), (0, .ref (ad 0)), (1, .int u1), (2, .int v17), (4, .int v18)]) E.1 E.2.1 dX9_choir_110 hl (k := 3) rfl (by rw [e9]; rfl) (by decide) rfl (fun ls hl => ?_)
      refine lv_goto (tgt := 6) E.1 E.2.1 dX9_choir_113 (by decide) ?_
      exact ih _ _ _ _ _ hf h (lv_sub hl [1, 2, 3, 0] rfl)
set_option maxHeartbeats 4000000 in
set_option maxRecDepth 100000 in
theorem c_X9_choir (l : Launch) (D : va_G) (cy : Nat → ClassId) (s00 : State) (ad : Nat → Nat) (S : XS) (p0 : Int32) (r9 : Int32) (hf : f_X9_choir S p0 = some r9) : XI l yX9_choir cX9_choir 7 (some .int) 3 D cy s00 shMod ad S [.ref (ad 0), .int p0] r9 S := by
  refine XI.of (by decide) [(0, .ref (ad 0)), (1, .int p0)] rfl (Nat.le_of_ble_eq_true rfl) (fun p e s m args below meth c A ls E h hl => ?_)
  unfold f_X9_choir at hf
  refine lv_iconst (v := 1) E.1 E.2.1 dX9_choir_0 (by decide) ?_
  refine lv_iload_n E.1 E.2.1 dX9_choir_1 rfl (lv_at hl 1 rfl) ?_
  refine lv_ishl E.1 E.2.1 dX9_choir_2 ?_
  refine x_nm hf (fun v1 hf => ?_)
  refine lv_istore_n (lv' := [(2, .int v1), (0, .ref (ad 0)), (1, .int p0)]) E.1 E.2.1 dX9_choir_3 rfl hl (by decide) rfl (fun ls hl => ?_)
  refine lv_iconst (v := 0) E.1 E.2.1 dX9_choir_4 (by decide) ?_
  refine lv_istore_n (lv' := [(3, .int 0), (2, .int v1), (0, .ref (ad 0)), (1, .int p0)]) E.1 E.2.1 dX9_choir_5 rfl hl (by decide) rfl (fun ls hl => ?_)
  refine w_X9_choir_L6 E ?_ _ _ _ _ _ _ hf h (lv_sub hl [2, 3, 1, 0] rfl)
  intro v20 v21 H locs ls hf h hl
  refine lv_iload_n E.1 E.2.1 dX9_choir_116 rfl (lv_at hl 2 rfl) ?_
  exact x_irp E h hf dX9_choir_117
set_option maxHeartbeats 4000000 in
set_option maxRecDepth 100000 in
theorem w_X9_greatestChoir_L4 {p : Program} {l : Launch} {e : Env} {s : State} {m : MethodId} {args : Array Value} {below : List Frame} {meth : Method} {c : Code} {D : va_G} {cy : Nat → ClassId} {s00 : State} {ad : Nat → Nat} {A : Nat → Prop}  {r9 : Int32}  {S : XS} {K : Int32 → Int32 → Option (Int32)} (E : XE p s m args meth c cX9_greatestChoir 4 RX9 (some .int) D cy s00) (hk : ∀ (m1 m2 : Int32) (H : Heap) (locs : List Loc) (ls : Array Slot), K m1 m2 = some r9 → XH D cy s00 shMod ad S A s H locs → lv_has ls 4 [(0, .ref (ad 0)), (1, .int m1), (2, .int m2)] → W p l e (xrm 4) s m args below meth c H locs 0 0 (MQ below (xqi D cy shMod ad r9 S A) args s 0 0 A) (F0 m 43 ls [])) :
    ∀ (n : Nat) (m1 m2 : Int32) (H : Heap) (locs : List Loc) (ls : Array Slot), f_X9_greatestChoir_L4 K S n m1 m2 = some r9 → XH D cy s00 shMod ad S A s H locs → lv_has ls 4 [(0, .ref (ad 0)), (1, .int m1), (2, .int m2)] → W p l e (xrm 4) s m args below meth c H locs 0 0 (MQ below (xqi D cy shMod ad r9 S A) args s 0 0 A) (F0 m 4 ls []) := by
  intro n
  induction n with
  | zero => intro m1 m2 H locs ls hf; cases hf
  | succ n ih =>
    intro m1 m2 H locs ls hf h hl
    rw [f_X9_greatestChoir_L4] at hf
    refine lv_iload_n E.1 E.2.1 dX9_greatestChoir_4 rfl (lv_at hl 2 rfl) ?_
    refine lv_aload_n E.1 E.2.1 dX9_greatestChoir_5 rfl (lv_at hl 0 rfl) ?_
    refine x_getr E h 0 0 1 rfl rfl rfl (by decide) xinX9 kw1610 dX9_greatestChoir_6 ?_
    refine lv_iconst (v := 2) E.1 E.2.1 dX9_greatestChoir_9 (by decide) ?_
    refine x_iald E h 1 hf rfl dX9_greatestChoir_10 (fun v1 hf => ?_)
    refine x_br hf (lv_icmp_ge (tgt := 43) E.1 E.2.1 dX9_greatestChoir_11 (by decide)) (fun hf => ?_) (fun hf => ?_)
    · exact hk _ _ _ _ _ hf h (lv_sub hl [0, 1, 2] rfl)
    · refine lv_aload_n E.1 E.2.1 dX9_greatestChoir_14 rfl (lv_at hl 0 rfl) ?_
      refine lv_iload_n E.1 E.2.1 dX9_greatestChoir_15 rfl (lv_at hl 2 rfl) ?_
      refine x_callp E h hl 0 hf (fun r0 hr => c_X9_choir l D cy s00 _ S m2 r0 hr) m_X9_choir rfl rfl kw1606 rfl rfl (Nat.le_of_ble_eq_true rfl) ⟨by decide, by decide⟩ ⟨Nat.zero_le _, Nat.zero_le _⟩ dX9_greatestChoir_16 (fun v2 H locs hf h => ?_)
      refine lv_istore_n (lv' := [(3, .int v2), (0, .ref (ad 0)), (1, .int m1), (2, .int m2)]) E.1 E.2.1 dX9_greatestChoir_19 rfl hl (by decide) rfl (fun ls hl => ?_)
      refine lv_iload_n E.1 E.2.1 dX9_greatestChoir_20 rfl (lv_at hl 0 rfl) ?_
      refine x_callsp E h hl hf (fun r0 hr => c_X9_bits l D cy s00 _ _ v2 r0 hr) m_X9_bits kw1578 rfl rfl (Nat.le_of_ble_eq_true rfl) ⟨by decide, by decide⟩ ⟨Nat.zero_le _, Nat.zero_le _⟩ dX9_greatestChoir_21 (fun v3 H locs hf h => ?_)
      refine lv_iload_n E.1 E.2.1 dX9_greatestChoir_24 rfl (lv_at hl 2 rfl) ?_
      refine x_callsp E h hl hf (fun r0 hr => c_X9_bits l D cy s00 _ _ m1 r0 hr) m_X9_bits kw1578 rfl rfl (Nat.le_of_ble_eq_true rfl) ⟨by decide, by decide⟩ ⟨Nat.zero_le _, Nat.zero_le _⟩ dX9_greatestChoir_25 (fun v4 H locs hf h => ?_)
      refine x_br hf (lv_icmp_le (tgt := 35) E.1 E.2.1 dX9_greatestChoir_28 (by decide)) (fun hf => ?_) (fun hf => ?_)
      · refine lv_iload_n E.1 E.2.1 dX9_greatestChoir_35 rfl (lv_at hl 2 rfl) ?_
        refine lv_istore_n (lv' := [(1, .int m1), (3, .int v2), (0, .ref (ad 0)), (2, .int m2)]) E.1 E.2.1 dX9_greatestChoir_36 rfl hl (by decide) rfl (fun ls hl => ?_)
        refine x_nv hf (fun v5 e9 hf => ?_)
        refine lv_iinc (v := v5) (lv' := [(2, .int v5), (1, .int m1), (3, .int v2), (0, .ref (ad 0))]) E.1 E.2.1 dX9_greatestChoir_37 hl (k := 3) rfl (by rw [e9]; rfl) (by decide) rfl (fun ls hl => ?_)
        refine lv_goto (tgt := 4) E.1 E.2.1 dX9_greatestChoir_40 (by decide) ?_
        exact ih _ _ _ _ _ hf h (lv_sub hl [3, 1, 0] rfl)
      · refine lv_iload_n E.1 E.2.1 dX9_greatestChoir_31 rfl (lv_at hl 0 rfl) ?_
        refine lv_goto (tgt := 36) E.1 E.2.1 dX9_greatestChoir_32 (by decide) ?_
        refine lv_istore_n (lv' := [(1, .int v2), (3, .int v2), (0, .ref (ad 0)), (2, .int m2)]) E.1 E.2.1 dX9_greatestChoir_36 rfl hl (by decide) rfl (fun ls hl => ?_)
        refine x_nv hf (fun v6 e9 hf => ?_)
        refine lv_iinc (v := v6) (lv' := [(2, .int v6), (1, .int v2), (3, .int v2), (0, .ref (ad 0))]) E.1 E.2.1 dX9_greatestChoir_37 hl (k := 3) rfl (by rw [e9]; rfl) (by decide) rfl (fun ls hl => ?_)
        refine lv_goto (tgt := 4) E.1 E.2.1 dX9_greatestChoir_40 (by decide) ?_
        exact ih _ _ _ _ _ hf h (lv_sub hl [3, 1, 0] rfl)
set_option maxHeartbeats 4000000 in
set_option maxRecDepth 100000 in
theorem c_X9_greatestChoir (l : Launch) (D : va_G) (cy : Nat → ClassId) (s00 : State) (ad : Nat → Nat) (S : XS) (r9 : Int32) (hf : f_X9_greatestChoir S = some r9) : XI l yX9_greatestChoir cX9_greatestChoir 4 (some .int) 4 D cy s00 shMod ad S [.ref (ad 0)] r9 S := by
  refine XI.of (by decide) [(0, .ref (ad 0))] rfl (Nat.le_of_ble_eq_true rfl) (fun p e s m args below meth c A ls E h hl => ?_)
  unfold f_X9_greatestChoir at hf
  refine lv_iconst (v := 0) E.1 E.2.1 dX9_greatestChoir_0 (by decide) ?_
  refine lv_istore_n (lv' := [(1, .int 0), (0, .ref (ad 0))]) E.1 E.2.1 dX9_greatestChoir_1 rfl hl (by decide) rfl (fun ls hl => ?_)
  refine lv_iconst (v := 0) E.1 E.2.1 dX9_greatestChoir_2 (by decide) ?_
  refine lv_istore_n (lv' := [(2, .int 0), (1, .int 0), (0, .ref (ad 0))]) E.1 E.2.1 dX9_greatestChoir_3 rfl hl (by decide) rfl (fun ls hl => ?_)
  refine w_X9_greatestChoir_L4 E ?_ _ _ _ _ _ _ hf h (lv_sub hl [2, 1, 0] rfl)
  intro v7 v8 H locs ls hf h hl
  refine lv_iload_n E.1 E.2.1 dX9_greatestChoir_43 rfl (lv_at hl 1 rfl) ?_
  exact x_irp E h hf dX9_greatestChoir_44
set_option maxHeartbeats 4000000 in
set_option maxRecDepth 100000 in
theorem w_X9_sings_L7 {p : Program} {l : Launch} {e : Env} {s : State} {m : MethodId} {args : Array Value} {below : List Frame} {meth : Method} {c : Code} {D : va_G} {cy : Nat → ClassId} {s00 : State} {ad : Nat → Nat} {A : Nat → Prop}  {S9 : XS} {u1 : Int32} {K : Int32 → XS → Option (XS)} (E : XE p s m args meth c cX9_sings 3 RX9 none D cy s00) (hk : ∀ (m2 : Int32) (S1 : XS) (H : Heap) (locs : List Loc) (ls : Array Slot), K m2 S1 = some S9 → XH D cy s00 shMod ad S1 A s H locs → lv_has ls 3 [(0, .ref (ad 0)), (1, .int u1), (2, .int m2)] → W p l e (xrm 5) s m args below meth c H locs 0 0 (MQ below (xqv D cy shMod ad S9 A) args s 0 0 A) (F0 m 41 ls [])) :
    ∀ (n : Nat) (m2 : Int32) (S : XS) (H : Heap) (locs : List Loc) (ls : Array Slot), f_X9_sings_L7 K u1 n m2 S = some S9 → XH D cy s00 shMod ad S A s H locs → lv_has ls 3 [(0, .ref (ad 0)), (1, .int u1), (2, .int m2)] → W p l e (xrm 5) s m args below meth c H locs 0 0 (MQ below (xqv D cy shMod ad S9 A) args s 0 0 A) (F0 m 7 ls []) := by
  intro n
  induction n with
  | zero => intro m2 S H locs ls hf; cases hf
  | succ n ih =>
    intro m2 S H locs ls hf h hl
    rw [f_X9_sings_L7] at hf
    refine lv_iload_n E.1 E.2.1 dX9_sings_7 rfl (lv_at hl 2 rfl) ?_
    refine lv_aload_n E.1 E.2.1 dX9_sings_8 rfl (lv_at hl 0 rfl) ?_
    refine x_getr E h 0 0 1 rfl rfl rfl (by decide) xinX9 kw1610 dX9_sings_9 ?_
    refine lv_iconst (v := 2) E.1 E.2.1 dX9_sings_12 (by decide) ?_
    refine x_iald E h 1 hf rfl dX9_sings_13 (fun v2 hf => ?_)
    refine x_br hf (lv_icmp_ge (tgt := 41) E.1 E.2.1 dX9_sings_14 (by decide)) (fun hf => ?_) (fun hf => ?_)
    · exact hk _ _ _ _ _ hf h (lv_sub hl [0, 1, 2] rfl)
    · refine lv_iload_n E.1 E.2.1 dX9_sings_17 rfl (lv_at hl 1 rfl) ?_
      refine lv_iload_n E.1 E.2.1 dX9_sings_18 rfl (lv_at hl 2 rfl) ?_
      refine lv_ishr E.1 E.2.1 dX9_sings_19 ?_
      refine lv_iconst (v := 1) E.1 E.2.1 dX9_sings_20 (by decide) ?_
      refine lv_iand E.1 E.2.1 dX9_sings_21 ?_
      refine lv_iconst (v := 1) E.1 E.2.1 dX9_sings_22 (by decide) ?_
      refine x_brn hf (lv_icmp_ne (tgt := 35) E.1 E.2.1 dX9_sings_23 (by decide)) (fun hf => ?_) (fun hf => ?_)
      · refine x_nv hf (fun v3 e9 hf => ?_)
        refine lv_iinc (v := v3) (lv' := [(2, .int v3), (0, .ref (ad 0)), (1, .int u1)]) E.1 E.2.1 dX9_sings_35 hl (k := 2) rfl (by rw [e9]; rfl) (by decide) rfl (fun ls hl => ?_)
        refine lv_goto (tgt := 7) E.1 E.2.1 dX9_sings_38 (by decide) ?_
        exact ih _ _ _ _ _ hf h (lv_sub hl [1, 2, 0] rfl)
      · refine lv_aload_n E.1 E.2.1 dX9_sings_26 rfl (lv_at hl 0 rfl) ?_
        refine lv_iload_n E.1 E.2.1 dX9_sings_27 rfl (lv_at hl 2 rfl) ?_
        refine lv_iload_n E.1 E.2.1 dX9_sings_28 rfl (lv_at hl 1 rfl) ?_
        refine x_callsp E h hl hf (fun r0 hr => c_X9_bits l D cy s00 _ _ u1 r0 hr) m_X9_bits kw1578 rfl rfl (Nat.le_of_ble_eq_true rfl) ⟨by decide, by decide⟩ ⟨Nat.zero_le _, Nat.zero_le _⟩ dX9_sings_29 (fun v4 H locs hf h => ?_)
        refine x_callv E h hl 0 hf (fun r0 hr => c_X9_feeds l D cy s00 _ S m2 v4 r0 hr) m_X9_feeds rfl rfl kw1589 rfl rfl (Nat.le_of_ble_eq_true rfl) ⟨by decide, by decide⟩ ⟨Nat.zero_le _, Nat.zero_le _⟩ dX9_sings_32 (fun S5 H locs hf h => ?_)
        refine x_nv hf (fun v6 e9 hf => ?_)
        refine lv_iinc (v := v6) (lv' := [(2, .int v6), (0, .ref (ad 0)), (1, .int u1)]) E.1 E.2.1 dX9_sings_35 hl (k := 2) rfl (by rw [e9]; rfl) (by decide) rfl (fun ls hl => ?_)
        refine lv_goto (tgt := 7) E.1 E.2.1 dX9_sings_38 (by decide) ?_
        exact ih _ _ _ _ _ hf h (lv_sub hl [1, 2, 0] rfl)
set_option maxHeartbeats 4000000 in
set_option maxRecDepth 100000 in
theorem c_X9_sings (l : Launch) (D : va_G) (cy : Nat → ClassId) (s00 : State) (ad : Nat → Nat) (S : XS) (S9 : XS) (hf : f_X9_sings S = some S9) : XV l yX9_sings cX9_sings 3 none 5 D cy s00 shMod ad S [.ref (ad 0)] S9 := by
  refine XV.of (by decide) [(0, .ref (ad 0))] rfl (Nat.le_of_ble_eq_true rfl) (fun p e s m args below meth c A ls E h hl => ?_)
  unfold f_X9_sings at hf
  refine lv_aload_n E.1 E.2.1 dX9_sings_0 rfl (lv_at hl 0 rfl) ?_
  refine x_callp E h hl 0 hf (fun r0 hr => c_X9_greatestChoir l D cy s00 _ S  r0 hr) m_X9_greatestChoir rfl rfl kw1602 rfl rfl (Nat.le_of_ble_eq_true rfl) ⟨by decide, by decide⟩ ⟨Nat.zero_le _, Nat.zero_le _⟩ dX9_sings_1 (fun v1 H locs hf h => ?_)
  refine lv_istore_n (lv' := [(1, .int v1), (0, .ref (ad 0))]) E.1 E.2.1 dX9_sings_4 rfl hl (by decide) rfl (fun ls hl => ?_)
  refine lv_iconst (v := 0) E.1 E.2.1 dX9_sings_5 (by decide) ?_
  refine lv_istore_n (lv' := [(2, .int 0), (1, .int v1), (0, .ref (ad 0))]) E.1 E.2.1 dX9_sings_6 rfl hl (by decide) rfl (fun ls hl => ?_)
  refine w_X9_sings_L7 E ?_ _ _ _ _ _ _ hf h (lv_sub hl [2, 1, 0] rfl)
  intro v7 S8 H locs ls hf h hl
  exact x_vret E h hf dX9_sings_41
set_option maxHeartbeats 4000000 in
set_option maxRecDepth 100000 in
theorem w_X9_passes_L19 {p : Program} {l : Launch} {e : Env} {s : State} {m : MethodId} {args : Array Value} {below : List Frame} {meth : Method} {c : Code} {D : va_G} {cy : Nat → ClassId} {s00 : State} {ad : Nat → Nat} {A : Nat → Prop}  {r9 : Int32} {S9 : XS} {u1 : Int32} {u2 : Int32} {K : Int32 → XS → Option (Int32 × XS)} (E : XE p s m args meth c cX9_passes 4 RX9 (some .int) D cy s00) (hk : ∀ (m3 : Int32) (S1 : XS) (H : Heap) (locs : List Loc) (ls : Array Slot), K m3 S1 = some (r9, S9) → XH D cy s00 shMod ad S1 A s H locs → lv_has ls 4 [(0, .ref (ad 0)), (1, .int u1), (2, .int u2), (3, .int m3)] → W p l e (xrm 6) s m args below meth c H locs 0 0 (MQ below (xqi D cy shMod ad r9 S9 A) args s 0 0 A) (F0 m 72 ls [])) :
    ∀ (n : Nat) (m3 : Int32) (S : XS) (H : Heap) (locs : List Loc) (ls : Array Slot), f_X9_passes_L19 K u1 u2 n m3 S = some (r9, S9) → XH D cy s00 shMod ad S A s H locs → lv_has ls 4 [(0, .ref (ad 0)), (1, .int u1), (2, .int u2), (3, .int m3)] → W p l e (xrm 6) s m args below meth c H locs 0 0 (MQ below (xqi D cy shMod ad r9 S9 A) args s 0 0 A) (F0 m 19 ls []) := by
  intro n
  induction n with
  | zero => intro m3 S H locs ls hf; cases hf
  | succ n ih =>
    intro m3 S H locs ls hf h hl
    rw [f_X9_passes_L19] at hf
    refine lv_iload_n E.1 E.2.1 dX9_passes_19 rfl (lv_at hl 3 rfl) ?_
    refine lv_aload_n E.1 E.2.1 dX9_passes_20 rfl (lv_at hl 0 rfl) ?_
    refine x_getr E h 0 0 1 rfl rfl rfl (by decide) xinX9 kw1610 dX9_passes_21 ?_
    refine lv_iconst (v := 2) E.1 E.2.1 dX9_passes_24 (by decide) ?_
    refine x_iald E h 1 hf rfl dX9_passes_25 (fun v4 hf => ?_)
    refine x_br hf (lv_icmp_ge (tgt := 72) E.1 E.2.1 dX9_passes_26 (by decide)) (fun hf => ?_) (fun hf => ?_)
    · exact hk _ _ _ _ _ hf h (lv_sub hl [0, 1, 2, 3] rfl)
    · refine lv_aload_n E.1 E.2.1 dX9_passes_29 rfl (lv_at hl 0 rfl) ?_
      refine lv_iload_n E.1 E.2.1 dX9_passes_30 rfl (lv_at hl 3 rfl) ?_
      refine x_callp E h hl 0 hf (fun r0 hr => c_X9_isHome l D cy s00 _ S m3 r0 hr) m_X9_isHome rfl rfl kw1522 rfl rfl (Nat.le_of_ble_eq_true rfl) ⟨by decide, by decide⟩ ⟨Nat.zero_le _, Nat.zero_le _⟩ dX9_passes_31 (fun v5 H locs hf h => ?_)
      refine x_br hf (lv_if_eq (tgt := 61) E.1 E.2.1 dX9_passes_34 (by decide)) (fun hf => ?_) (fun hf => ?_)
      · refine lv_aload_n E.1 E.2.1 dX9_passes_61 rfl (lv_at hl 0 rfl) ?_
        refine lv_iload_n E.1 E.2.1 dX9_passes_62 rfl (lv_at hl 3 rfl) ?_
        refine x_callv E h hl 0 hf (fun r0 hr => c_X9_eats l D cy s00 _ S m3 r0 hr) m_X9_eats rfl rfl kw1594 rfl rfl (Nat.le_of_ble_eq_true rfl) ⟨by decide, by decide⟩ ⟨Nat.zero_le _, Nat.zero_le _⟩ dX9_passes_63 (fun S6 H locs hf h => ?_)
        refine x_nv hf (fun v7 e9 hf => ?_)
        refine lv_iinc (v := v7) (lv' := [(3, .int v7), (0, .ref (ad 0)), (1, .int u1), (2, .int u2)]) E.1 E.2.1 dX9_passes_66 hl (k := 3) rfl (by rw [e9]; rfl) (by decide) rfl (fun ls hl => ?_)
        refine lv_goto (tgt := 19) E.1 E.2.1 dX9_passes_69 (by decide) ?_
        exact ih _ _ _ _ _ hf h (lv_sub hl [1, 2, 3, 0] rfl)
      · refine lv_aload_n E.1 E.2.1 dX9_passes_37 rfl (lv_at hl 0 rfl) ?_
        refine lv_iload_n E.1 E.2.1 dX9_passes_38 rfl (lv_at hl 3 rfl) ?_
        refine lv_aload_n E.1 E.2.1 dX9_passes_39 rfl (lv_at hl 0 rfl) ?_
        refine x_getr E h 0 0 1 rfl rfl rfl (by decide) xinX9 kw1610 dX9_passes_40 ?_
        refine lv_bipush (v := 10) E.1 E.2.1 dX9_passes_43 (by decide) ?_
        refine lv_aload_n E.1 E.2.1 dX9_passes_45 rfl (lv_at hl 0 rfl) ?_
        refine lv_iload_n E.1 E.2.1 dX9_passes_46 rfl (lv_at hl 3 rfl) ?_
        refine lv_iconst (v := 3) E.1 E.2.1 dX9_passes_47 (by decide) ?_
        refine x_callp E h hl 0 hf (fun r0 hr => c_X9_of l D cy s00 _ S m3 3 r0 hr) m_X9_of rfl rfl kw1429 rfl rfl (Nat.le_of_ble_eq_true rfl) ⟨by decide, by decide⟩ ⟨Nat.zero_le _, Nat.zero_le _⟩ dX9_passes_48 (fun v8 H locs hf h => ?_)
        refine lv_iadd E.1 E.2.1 dX9_passes_51 ?_
        refine x_iald E h 1 hf rfl dX9_passes_52 (fun v9 hf => ?_)
        refine lv_iconst (v := 3) E.1 E.2.1 dX9_passes_53 (by decide) ?_
        refine lv_idiv E.1 E.2.1 dX9_passes_54 (by decide) ?_
        refine x_callv E h hl 0 hf (fun r0 hr => c_X9_feeds l D cy s00 _ S m3 (v9 / 3) r0 hr) m_X9_feeds rfl rfl kw1589 rfl rfl (Nat.le_of_ble_eq_true rfl) ⟨by decide, by decide⟩ ⟨Nat.zero_le _, Nat.zero_le _⟩ dX9_passes_55 (fun S10 H locs hf h => ?_)
        refine lv_goto (tgt := 66) E.1 E.2.1 dX9_passes_58 (by decide) ?_
        refine x_nv hf (fun v11 e9 hf => ?_)
        refine lv_iinc (v := v11) (lv' := [(3, .int v11), (0, .ref (ad 0)), (1, .int u1), (2, .int u2)]) E.1 E.2.1 dX9_passes_66 hl (k := 3) rfl (by rw [e9]; rfl) (by decide) rfl (fun ls hl => ?_)
        refine lv_goto (tgt := 19) E.1 E.2.1 dX9_passes_69 (by decide) ?_
        exact ih _ _ _ _ _ hf h (lv_sub hl [1, 2, 3, 0] rfl)
set_option maxHeartbeats 4000000 in
set_option maxRecDepth 100000 in
theorem w_X9_passes_L2 {p : Program} {l : Launch} {e : Env} {s : State} {m : MethodId} {args : Array Value} {below : List Frame} {meth : Method} {c : Code} {D : va_G} {cy : Nat → ClassId} {s00 : State} {ad : Nat → Nat} {A : Nat → Prop}  {r9 : Int32} {S9 : XS} {u1 : Int32} {K : Int32 → XS → Option (Int32 × XS)} (E : XE p s m args meth c cX9_passes 4 RX9 (some .int) D cy s00) (hk : ∀ (m2 : Int32) (S1 : XS) (H : Heap) (locs : List Loc) (ls : Array Slot), K m2 S1 = some (r9, S9) → XH D cy s00 shMod ad S1 A s H locs → lv_has ls 4 [(0, .ref (ad 0)), (1, .int u1), (2, .int m2)] → W p l e (xrm 6) s m args below meth c H locs 0 0 (MQ below (xqi D cy shMod ad r9 S9 A) args s 0 0 A) (F0 m 95 ls [])) :
    ∀ (n : Nat) (m2 : Int32) (S : XS) (H : Heap) (locs : List Loc) (ls : Array Slot), f_X9_passes_L2 K u1 n m2 S = some (r9, S9) → XH D cy s00 shMod ad S A s H locs → lv_has ls 4 [(0, .ref (ad 0)), (1, .int u1), (2, .int m2)] → W p l e (xrm 6) s m args below meth c H locs 0 0 (MQ below (xqi D cy shMod ad r9 S9 A) args s 0 0 A) (F0 m 2 ls []) := by
  intro n
  induction n with
  | zero => intro m2 S H locs ls hf; cases hf
  | succ n ih =>
    intro m2 S H locs ls hf h hl
    rw [f_X9_passes_L2] at hf
    refine lv_iload_n E.1 E.2.1 dX9_passes_2 rfl (lv_at hl 2 rfl) ?_
    refine lv_iload_n E.1 E.2.1 dX9_passes_3 rfl (lv_at hl 1 rfl) ?_
    refine x_br hf (lv_icmp_ge (tgt := 95) E.1 E.2.1 dX9_passes_4 (by decide)) (fun hf => ?_) (fun hf => ?_)
    · exact hk _ _ _ _ _ hf h (lv_sub hl [0, 1, 2] rfl)
    · refine lv_aload_n E.1 E.2.1 dX9_passes_7 rfl (lv_at hl 0 rfl) ?_
      refine x_getr E h 0 0 1 rfl rfl rfl (by decide) xinX9 kw1610 dX9_passes_8 ?_
      refine lv_iconst (v := 3) E.1 E.2.1 dX9_passes_11 (by decide) ?_
      refine lv_dup2_11 E.1 E.2.1 dX9_passes_12 rfl rfl ?_
      refine x_iald E h 1 hf rfl dX9_passes_13 (fun v1 hf => ?_)
      refine lv_iconst (v := 1) E.1 E.2.1 dX9_passes_14 (by decide) ?_
      refine lv_iadd E.1 E.2.1 dX9_passes_15 ?_
      refine x_iast E h 1 hf rfl dX9_passes_16 (fun S2 H locs hf h => ?_)
      refine lv_iconst (v := 0) E.1 E.2.1 dX9_passes_17 (by decide) ?_
      refine lv_istore_n (lv' := [(3, .int 0), (0, .ref (ad 0)), (1, .int u1), (2, .int m2)]) E.1 E.2.1 dX9_passes_18 rfl hl (by decide) rfl (fun ls hl => ?_)
      refine w_X9_passes_L19 E ?_ _ _ _ _ _ _ hf h (lv_sub hl [1, 2, 3, 0] rfl)
      intro v12 S13 H locs ls hf h hl
      refine lv_aload_n E.1 E.2.1 dX9_passes_72 rfl (lv_at hl 0 rfl) ?_
      refine x_getr E h 0 0 1 rfl rfl rfl (by decide) xinX9 kw1610 dX9_passes_73 ?_
      refine lv_iconst (v := 3) E.1 E.2.1 dX9_passes_76 (by decide) ?_
      refine x_iald E h 1 hf rfl dX9_passes_77 (fun v14 hf => ?_)
      refine lv_bipush (v := 8) E.1 E.2.1 dX9_passes_78 (by decide) ?_
      refine lv_irem E.1 E.2.1 dX9_passes_80 (by decide) ?_
      refine lv_iconst (v := 4) E.1 E.2.1 dX9_passes_81 (by decide) ?_
      refine x_brn hf (lv_icmp_ne (tgt := 89) E.1 E.2.1 dX9_passes_82 (by decide)) (fun hf => ?_) (fun hf => ?_)
      · refine x_nv hf (fun v15 e9 hf => ?_)
        refine lv_iinc (v := v15) (lv' := [(2, .int v15), (0, .ref (ad 0)), (1, .int u1), (3, .int v12)]) E.1 E.2.1 dX9_passes_89 hl (k := 2) rfl (by rw [e9]; rfl) (by decide) rfl (fun ls hl => ?_)
        refine lv_goto (tgt := 2) E.1 E.2.1 dX9_passes_92 (by decide) ?_
        exact ih _ _ _ _ _ hf h (lv_sub hl [1, 2, 0] rfl)
      · refine lv_aload_n E.1 E.2.1 dX9_passes_85 rfl (lv_at hl 0 rfl) ?_
        refine x_callv E h hl 0 hf (fun r0 hr => c_X9_sings l D cy s00 _ S13  r0 hr) m_X9_sings rfl rfl kw1598 rfl rfl (Nat.le_of_ble_eq_true rfl) ⟨by decide, by decide⟩ ⟨Nat.zero_le _, Nat.zero_le _⟩ dX9_passes_86 (fun S16 H locs hf h => ?_)
        refine x_nv hf (fun v17 e9 hf => ?_)
        refine lv_iinc (v := v17) (lv' := [(2, .int v17), (0, .ref (ad 0)), (1, .int u1), (3, .int v12)]) E.1 E.2.1 dX9_passes_89 hl (k := 2) rfl (by rw [e9]; rfl) (by decide) rfl (fun ls hl => ?_)
        refine lv_goto (tgt := 2) E.1 E.2.1 dX9_passes_92 (by decide) ?_
        exact ih _ _ _ _ _ hf h (lv_sub hl [1, 2, 0] rfl)
set_option maxHeartbeats 4000000 in
set_option maxRecDepth 100000 in
theorem c_X9_passes (l : Launch) (D : va_G) (cy : Nat → ClassId) (s00 : State) (ad : Nat → Nat) (S : XS) (p0 : Int32) (r9 : Int32) (S9 : XS) (hf : f_X9_passes S p0 = some (r9, S9)) : XI l yX9_passes cX9_passes 4 (some .int) 6 D cy s00 shMod ad S [.ref (ad 0), .int p0] r9 S9 := by
  refine XI.of (by decide) [(0, .ref (ad 0)), (1, .int p0)] rfl (Nat.le_of_ble_eq_true rfl) (fun p e s m args below meth c A ls E h hl => ?_)
  unfold f_X9_passes at hf
  refine lv_iconst (v := 0) E.1 E.2.1 dX9_passes_0 (by decide) ?_
  refine lv_istore_n (lv' := [(2, .int 0), (0, .ref (ad 0)), (1, .int p0)]) E.1 E.2.1 dX9_passes_1 rfl hl (by decide) rfl (fun ls hl => ?_)
  refine w_X9_passes_L2 E ?_ _ _ _ _ _ _ hf h (lv_sub hl [1, 2, 0] rfl)
  intro v18 S19 H locs ls hf h hl
  refine lv_aload_n E.1 E.2.1 dX9_passes_95 rfl (lv_at hl 0 rfl) ?_
  refine x_getr E h 0 0 1 rfl rfl rfl (by decide) xinX9 kw1610 dX9_passes_96 ?_
  refine lv_iconst (v := 3) E.1 E.2.1 dX9_passes_99 (by decide) ?_
  refine x_iald E h 1 hf rfl dX9_passes_100 (fun v20 hf => ?_)
  exact x_iret E h hf dX9_passes_101
set_option maxHeartbeats 4000000 in
set_option maxRecDepth 100000 in
theorem c_X9_readsNights (l : Launch) (D : va_G) (cy : Nat → ClassId) (s00 : State) (ad : Nat → Nat) (S : XS) (r9 : Int32) (S9 : XS) (hf : f_X9_readsNights S = some (r9, S9)) : XI l yX9_readsNights cX9_readsNights 1 (some .boolean) 7 D cy s00 shMod ad S [.ref (ad 0)] r9 S9 := by
  refine XI.of (by decide) [(0, .ref (ad 0))] rfl (Nat.le_of_ble_eq_true rfl) (fun p e s m args below meth c A ls E h hl => ?_)
  unfold f_X9_readsNights at hf
  refine lv_aload_n E.1 E.2.1 dX9_readsNights_0 rfl (lv_at hl 0 rfl) ?_
  refine lv_iconst (v := 0) E.1 E.2.1 dX9_readsNights_1 (by decide) ?_
  refine lv_iconst (v := 1) E.1 E.2.1 dX9_readsNights_2 (by decide) ?_
  refine lv_bipush (v := 30) E.1 E.2.1 dX9_readsNights_3 (by decide) ?_
  refine x_calli E h hl 0 hf (fun r0 Sq0 hr => c_X9_number l D cy s00 _ S 0 1 30 r0 Sq0 hr) m_X9_number rfl rfl kw1374 rfl rfl (Nat.le_of_ble_eq_true rfl) ⟨by decide, by decide⟩ ⟨Nat.zero_le _, Nat.zero_le _⟩ dX9_readsNights_5 (fun v1 S2 H locs hf h => ?_)
  refine x_br hf (lv_if_eq (tgt := 42) E.1 E.2.1 dX9_readsNights_8 (by decide)) (fun hf => ?_) (fun hf => ?_)
  · refine lv_iconst (v := 0) E.1 E.2.1 dX9_readsNights_42 (by decide) ?_
    exact x_zic E h (by decide) hf dX9_readsNights_43
  · refine lv_aload_n E.1 E.2.1 dX9_readsNights_11 rfl (lv_at hl 0 rfl) ?_
    refine lv_aload_n E.1 E.2.1 dX9_readsNights_12 rfl (lv_at hl 0 rfl) ?_
    refine x_getr E h 0 0 1 rfl rfl rfl (by decide) xinX9 kw1610 dX9_readsNights_13 ?_
    refine lv_iconst (v := 3) E.1 E.2.1 dX9_readsNights_16 (by decide) ?_
    refine x_iald E h 1 hf rfl dX9_readsNights_17 (fun v3 hf => ?_)
    refine lv_aload_n E.1 E.2.1 dX9_readsNights_18 rfl (lv_at hl 0 rfl) ?_
    refine x_getr E h 0 22 10 rfl rfl rfl (by decide) xinX9 kw1632 dX9_readsNights_19 ?_
    refine lv_iconst (v := 0) E.1 E.2.1 dX9_readsNights_22 (by decide) ?_
    refine x_iald E h 10 hf rfl dX9_readsNights_23 (fun v4 hf => ?_)
    refine lv_iadd E.1 E.2.1 dX9_readsNights_24 ?_
    refine lv_sipush (v := 999) E.1 E.2.1 dX9_readsNights_25 (by decide) ?_
    refine x_br hf (lv_icmp_gt (tgt := 35) E.1 E.2.1 dX9_readsNights_28 (by decide)) (fun hf => ?_) (fun hf => ?_)
    · refine lv_iconst (v := 0) E.1 E.2.1 dX9_readsNights_35 (by decide) ?_
      refine x_calli E h hl 0 hf (fun r0 Sq0 hr => c_X9_stops l D cy s00 _ S2 0 r0 Sq0 hr) m_X9_stops rfl rfl kw1389 rfl rfl (Nat.le_of_ble_eq_true rfl) ⟨by decide, by decide⟩ ⟨Nat.zero_le _, Nat.zero_le _⟩ dX9_readsNights_36 (fun v5 S6 H locs hf h => ?_)
      refine x_brn hf (lv_if_ne (tgt := 44) E.1 E.2.1 dX9_readsNights_39 (by decide)) (fun hf => ?_) (fun hf => ?_)
      · refine lv_aload_n E.1 E.2.1 dX9_readsNights_44 rfl (lv_at hl 0 rfl) ?_
        refine lv_aload_n E.1 E.2.1 dX9_readsNights_45 rfl (lv_at hl 0 rfl) ?_
        refine x_getr E h 0 22 10 rfl rfl rfl (by decide) xinX9 kw1632 dX9_readsNights_46 ?_
        refine lv_iconst (v := 0) E.1 E.2.1 dX9_readsNights_49 (by decide) ?_
        refine x_iald E h 10 hf rfl dX9_readsNights_50 (fun v7 hf => ?_)
        refine x_calli E h hl 0 hf (fun r0 Sq0 hr => c_X9_passes l D cy s00 _ S6 v7 r0 Sq0 hr) m_X9_passes rfl rfl kw1585 rfl rfl (Nat.le_of_ble_eq_true rfl) ⟨by decide, by decide⟩ ⟨Nat.zero_le _, Nat.zero_le _⟩ dX9_readsNights_51 (fun v8 S9 H locs hf h => ?_)
        refine lv_pop E.1 E.2.1 dX9_readsNights_54 rfl ?_
        refine lv_iconst (v := 1) E.1 E.2.1 dX9_readsNights_55 (by decide) ?_
        exact x_zic E h (by decide) hf dX9_readsNights_56
      · refine lv_iconst (v := 0) E.1 E.2.1 dX9_readsNights_42 (by decide) ?_
        exact x_zic E h (by decide) hf dX9_readsNights_43
    · refine lv_iconst (v := 1) E.1 E.2.1 dX9_readsNights_31 (by decide) ?_
      refine lv_goto (tgt := 36) E.1 E.2.1 dX9_readsNights_32 (by decide) ?_
      refine x_calli E h hl 0 hf (fun r0 Sq0 hr => c_X9_stops l D cy s00 _ S2 1 r0 Sq0 hr) m_X9_stops rfl rfl kw1389 rfl rfl (Nat.le_of_ble_eq_true rfl) ⟨by decide, by decide⟩ ⟨Nat.zero_le _, Nat.zero_le _⟩ dX9_readsNights_36 (fun v10 S11 H locs hf h => ?_)
      refine x_brn hf (lv_if_ne (tgt := 44) E.1 E.2.1 dX9_readsNights_39 (by decide)) (fun hf => ?_) (fun hf => ?_)
      · refine lv_aload_n E.1 E.2.1 dX9_readsNights_44 rfl (lv_at hl 0 rfl) ?_
        refine lv_aload_n E.1 E.2.1 dX9_readsNights_45 rfl (lv_at hl 0 rfl) ?_
        refine x_getr E h 0 22 10 rfl rfl rfl (by decide) xinX9 kw1632 dX9_readsNights_46 ?_
        refine lv_iconst (v := 0) E.1 E.2.1 dX9_readsNights_49 (by decide) ?_
        refine x_iald E h 10 hf rfl dX9_readsNights_50 (fun v12 hf => ?_)
        refine x_calli E h hl 0 hf (fun r0 Sq0 hr => c_X9_passes l D cy s00 _ S11 v12 r0 Sq0 hr) m_X9_passes rfl rfl kw1585 rfl rfl (Nat.le_of_ble_eq_true rfl) ⟨by decide, by decide⟩ ⟨Nat.zero_le _, Nat.zero_le _⟩ dX9_readsNights_51 (fun v13 S14 H locs hf h => ?_)
        refine lv_pop E.1 E.2.1 dX9_readsNights_54 rfl ?_
        refine lv_iconst (v := 1) E.1 E.2.1 dX9_readsNights_55 (by decide) ?_
        exact x_zic E h (by decide) hf dX9_readsNights_56
      · refine lv_iconst (v := 0) E.1 E.2.1 dX9_readsNights_42 (by decide) ?_
        exact x_zic E h (by decide) hf dX9_readsNights_43
set_option maxHeartbeats 4000000 in
set_option maxRecDepth 100000 in
theorem c_X9_readsWord (l : Launch) (D : va_G) (cy : Nat → ClassId) (s00 : State) (ad : Nat → Nat) (S : XS) (p0 : Int32) (r9 : Int32) (S9 : XS) (hf : f_X9_readsWord S p0 = some (r9, S9)) : XI l yX9_readsWord cX9_readsWord 2 (some .boolean) 8 D cy s00 shMod ad S [.ref (ad 0), .int p0] r9 S9 := by
  refine XI.of (by decide) [(0, .ref (ad 0)), (1, .int p0)] rfl (Nat.le_of_ble_eq_true rfl) (fun p e s m args below meth c A ls E h hl => ?_)
  unfold f_X9_readsWord at hf
  refine lv_iload_n E.1 E.2.1 dX9_readsWord_0 rfl (lv_at hl 1 rfl) ?_
  refine x_case hf (fun c9 hf => ?_) (fun c100 hf => ?_)
  · refine lv_tableIn (tgt := 60) E.1 E.2.1 dX9_readsWord_1 (by rw [c9]; decide) (by rw [c9]; decide) (by rw [c9]; rfl) (by decide) ?_
    refine lv_aload_n E.1 E.2.1 dX9_readsWord_60 rfl (lv_at hl 0 rfl) ?_
    refine x_calli E h hl 0 hf (fun r0 Sq0 hr => c_X9_readsChimney l D cy s00 _ S  r0 Sq0 hr) m_X9_readsChimney rfl rfl kw1385 rfl rfl (Nat.le_of_ble_eq_true rfl) ⟨by decide, by decide⟩ ⟨Nat.zero_le _, Nat.zero_le _⟩ dX9_readsWord_61 (fun v1 S2 H locs hf h => ?_)
    exact x_zret E h hf dX9_readsWord_64
  refine x_case hf (fun c9 hf => ?_) (fun c101 hf => ?_)
  · refine lv_tableIn (tgt := 65) E.1 E.2.1 dX9_readsWord_1 (by rw [c9]; decide) (by rw [c9]; decide) (by rw [c9]; rfl) (by decide) ?_
    refine lv_aload_n E.1 E.2.1 dX9_readsWord_65 rfl (lv_at hl 0 rfl) ?_
    refine x_calli E h hl 0 hf (fun r0 Sq0 hr => c_X9_readsGutter l D cy s00 _ S  r0 Sq0 hr) m_X9_readsGutter rfl rfl kw1397 rfl rfl (Nat.le_of_ble_eq_true rfl) ⟨by decide, by decide⟩ ⟨Nat.zero_le _, Nat.zero_le _⟩ dX9_readsWord_66 (fun v3 S4 H locs hf h => ?_)
    exact x_zret E h hf dX9_readsWord_69
  refine x_case hf (fun c9 hf => ?_) (fun c102 hf => ?_)
  · refine lv_tableIn (tgt := 70) E.1 E.2.1 dX9_readsWord_1 (by rw [c9]; decide) (by rw [c9]; decide) (by rw [c9]; rfl) (by decide) ?_
    refine lv_aload_n E.1 E.2.1 dX9_readsWord_70 rfl (lv_at hl 0 rfl) ?_
    refine x_calli E h hl 0 hf (fun r0 Sq0 hr => c_X9_readsCat l D cy s00 _ S  r0 Sq0 hr) m_X9_readsCat rfl rfl kw1413 rfl rfl (Nat.le_of_ble_eq_true rfl) ⟨by decide, by decide⟩ ⟨Nat.zero_le _, Nat.zero_le _⟩ dX9_readsWord_71 (fun v5 S6 H locs hf h => ?_)
    exact x_zret E h hf dX9_readsWord_74
  refine x_case hf (fun c9 hf => ?_) (fun c103 hf => ?_)
  · refine lv_tableIn (tgt := 75) E.1 E.2.1 dX9_readsWord_1 (by rw [c9]; decide) (by rw [c9]; decide) (by rw [c9]; rfl) (by decide) ?_
    refine lv_aload_n E.1 E.2.1 dX9_readsWord_75 rfl (lv_at hl 0 rfl) ?_
    refine x_calli E h hl 0 hf (fun r0 Sq0 hr => c_X9_readsStep l D cy s00 _ S  r0 Sq0 hr) m_X9_readsStep rfl rfl kw1441 rfl rfl (Nat.le_of_ble_eq_true rfl) ⟨by decide, by decide⟩ ⟨Nat.zero_le _, Nat.zero_le _⟩ dX9_readsWord_76 (fun v7 S8 H locs hf h => ?_)
    exact x_zret E h hf dX9_readsWord_79
  refine x_case hf (fun c9 hf => ?_) (fun c104 hf => ?_)
  · refine lv_tableIn (tgt := 80) E.1 E.2.1 dX9_readsWord_1 (by rw [c9]; decide) (by rw [c9]; decide) (by rw [c9]; rfl) (by decide) ?_
    refine lv_aload_n E.1 E.2.1 dX9_readsWord_80 rfl (lv_at hl 0 rfl) ?_
    refine x_calli E h hl 0 hf (fun r0 Sq0 hr => c_X9_readsClaim l D cy s00 _ S  r0 Sq0 hr) m_X9_readsClaim rfl rfl kw1478 rfl rfl (Nat.le_of_ble_eq_true rfl) ⟨by decide, by decide⟩ ⟨Nat.zero_le _, Nat.zero_le _⟩ dX9_readsWord_81 (fun v9 S10 H locs hf h => ?_)
    exact x_zret E h hf dX9_readsWord_84
  refine x_case hf (fun c9 hf => ?_) (fun c105 hf => ?_)
  · refine lv_tableIn (tgt := 85) E.1 E.2.1 dX9_readsWord_1 (by rw [c9]; decide) (by rw [c9]; decide) (by rw [c9]; rfl) (by decide) ?_
    refine lv_aload_n E.1 E.2.1 dX9_readsWord_85 rfl (lv_at hl 0 rfl) ?_
    refine x_calli E h hl 0 hf (fun r0 Sq0 hr => c_X9_readsAbandon l D cy s00 _ S  r0 Sq0 hr) m_X9_readsAbandon rfl rfl kw1494 rfl rfl (Nat.le_of_ble_eq_true rfl) ⟨by decide, by decide⟩ ⟨Nat.zero_le _, Nat.zero_le _⟩ dX9_readsWord_86 (fun v11 S12 H locs hf h => ?_)
    exact x_zret E h hf dX9_readsWord_89
  refine x_case hf (fun c9 hf => ?_) (fun c106 hf => ?_)
  · refine lv_tableIn (tgt := 90) E.1 E.2.1 dX9_readsWord_1 (by rw [c9]; decide) (by rw [c9]; decide) (by rw [c9]; rfl) (by decide) ?_
    refine lv_aload_n E.1 E.2.1 dX9_readsWord_90 rfl (lv_at hl 0 rfl) ?_
    refine x_calli E h hl 0 hf (fun r0 Sq0 hr => c_X9_readsChase l D cy s00 _ S  r0 Sq0 hr) m_X9_readsChase rfl rfl kw1502 rfl rfl (Nat.le_of_ble_eq_true rfl) ⟨by decide, by decide⟩ ⟨Nat.zero_le _, Nat.zero_le _⟩ dX9_readsWord_91 (fun v13 S14 H locs hf h => ?_)
    exact x_zret E h hf dX9_readsWord_94
  refine x_case hf (fun c9 hf => ?_) (fun c107 hf => ?_)
  · refine lv_tableIn (tgt := 95) E.1 E.2.1 dX9_readsWord_1 (by rw [c9]; decide) (by rw [c9]; decide) (by rw [c9]; rfl) (by decide) ?_
    refine lv_aload_n E.1 E.2.1 dX9_readsWord_95 rfl (lv_at hl 0 rfl) ?_
    refine x_calli E h hl 0 hf (fun r0 Sq0 hr => c_X9_readsTruce l D cy s00 _ S  r0 Sq0 hr) m_X9_readsTruce rfl rfl kw1530 rfl rfl (Nat.le_of_ble_eq_true rfl) ⟨by decide, by decide⟩ ⟨Nat.zero_le _, Nat.zero_le _⟩ dX9_readsWord_96 (fun v15 S16 H locs hf h => ?_)
    exact x_zret E h hf dX9_readsWord_99
  refine x_case hf (fun c9 hf => ?_) (fun c108 hf => ?_)
  · refine lv_tableIn (tgt := 100) E.1 E.2.1 dX9_readsWord_1 (by rw [c9]; decide) (by rw [c9]; decide) (by rw [c9]; rfl) (by decide) ?_
    refine lv_aload_n E.1 E.2.1 dX9_readsWord_100 rfl (lv_at hl 0 rfl) ?_
    refine x_calli E h hl 0 hf (fun r0 Sq0 hr => c_X9_readsKitten l D cy s00 _ S  r0 Sq0 hr) m_X9_readsKitten rfl rfl kw1542 rfl rfl (Nat.le_of_ble_eq_true rfl) ⟨by decide, by decide⟩ ⟨Nat.zero_le _, Nat.zero_le _⟩ dX9_readsWord_101 (fun v17 S18 H locs hf h => ?_)
    exact x_zret E h hf dX9_readsWord_104
  refine x_case hf (fun c9 hf => ?_) (fun c109 hf => ?_)
  · refine lv_tableIn (tgt := 105) E.1 E.2.1 dX9_readsWord_1 (by rw [c9]; decide) (by rw [c9]; decide) (by rw [c9]; rfl) (by decide) ?_
    refine lv_aload_n E.1 E.2.1 dX9_readsWord_105 rfl (lv_at hl 0 rfl) ?_
    refine lv_iconst (v := 1) E.1 E.2.1 dX9_readsWord_106 (by decide) ?_
    refine x_calli E h hl 0 hf (fun r0 Sq0 hr => c_X9_readsVote l D cy s00 _ S 1 r0 Sq0 hr) m_X9_readsVote rfl rfl kw1558 rfl rfl (Nat.le_of_ble_eq_true rfl) ⟨by decide, by decide⟩ ⟨Nat.zero_le _, Nat.zero_le _⟩ dX9_readsWord_107 (fun v19 S20 H locs hf h => ?_)
    exact x_zret E h hf dX9_readsWord_110
  refine x_case hf (fun c9 hf => ?_) (fun c110 hf => ?_)
  · refine lv_tableIn (tgt := 111) E.1 E.2.1 dX9_readsWord_1 (by rw [c9]; decide) (by rw [c9]; decide) (by rw [c9]; rfl) (by decide) ?_
    refine lv_aload_n E.1 E.2.1 dX9_readsWord_111 rfl (lv_at hl 0 rfl) ?_
    refine lv_iconst (v := 0) E.1 E.2.1 dX9_readsWord_112 (by decide) ?_
    refine x_calli E h hl 0 hf (fun r0 Sq0 hr => c_X9_readsVote l D cy s00 _ S 0 r0 Sq0 hr) m_X9_readsVote rfl rfl kw1558 rfl rfl (Nat.le_of_ble_eq_true rfl) ⟨by decide, by decide⟩ ⟨Nat.zero_le _, Nat.zero_le _⟩ dX9_readsWord_113 (fun v21 S22 H locs hf h => ?_)
    exact x_zret E h hf dX9_readsWord_116
  refine lv_tableOut (tgt := 117) E.1 E.2.1 dX9_readsWord_1 (x_out (fun z z1 z2 => ?_)) (by decide) ?_
  · have hz : z = 0 ∨ z = 1 ∨ z = 2 ∨ z = 3 ∨ z = 4 ∨ z = 5 ∨ z = 6 ∨ z = 7 ∨ z = 8 ∨ z = 9 ∨ z = 10 := by omega
    rcases hz with rfl | rfl | rfl | rfl | rfl | rfl | rfl | rfl | rfl | rfl | rfl
    · exact c100
    · exact c101
    · exact c102
    · exact c103
    · exact c104
    · exact c105
    · exact c106
    · exact c107
    · exact c108
    · exact c109
    · exact c110
  · refine lv_aload_n E.1 E.2.1 dX9_readsWord_117 rfl (lv_at hl 0 rfl) ?_
    refine x_calli E h hl 0 hf (fun r0 Sq0 hr => c_X9_readsNights l D cy s00 _ S  r0 Sq0 hr) m_X9_readsNights rfl rfl kw1581 rfl rfl (Nat.le_of_ble_eq_true rfl) ⟨by decide, by decide⟩ ⟨Nat.zero_le _, Nat.zero_le _⟩ dX9_readsWord_118 (fun v23 S24 H locs hf h => ?_)
    exact x_zret E h hf dX9_readsWord_121
set_option maxHeartbeats 4000000 in
set_option maxRecDepth 100000 in
theorem c_X9_thrown (l : Launch) (D : va_G) (cy : Nat → ClassId) (s00 : State) (ad : Nat → Nat) (S : XS) (r9 : Int32) (hf : f_X9_thrown S = some r9) : XI l yX9_thrown cX9_thrown 1 (some .int) 0 D cy s00 shMod ad S [.ref (ad 0)] r9 S := by
  refine XI.of (by decide) [(0, .ref (ad 0))] rfl (Nat.le_of_ble_eq_true rfl) (fun p e s m args below meth c A ls E h hl => ?_)
  unfold f_X9_thrown at hf
  refine lv_aload_n E.1 E.2.1 dX9_thrown_0 rfl (lv_at hl 0 rfl) ?_
  refine x_get E h 0 16 rfl rfl rfl (by decide) xinX9 kw1626 dX9_thrown_1 ?_
  exact x_irp E h hf dX9_thrown_4
set_option maxHeartbeats 4000000 in
set_option maxRecDepth 100000 in
theorem c_X9_throwsOne (l : Launch) (D : va_G) (cy : Nat → ClassId) (s00 : State) (ad : Nat → Nat) (S : XS) (p0 : Int32) (r9 : Int32) (S9 : XS) (hf : f_X9_throwsOne S p0 = some (r9, S9)) : XI l yX9_throwsOne cX9_throwsOne 2 (some .boolean) 0 D cy s00 shMod ad S [.ref (ad 0), .int p0] r9 S9 := by
  refine XI.of (by decide) [(0, .ref (ad 0)), (1, .int p0)] rfl (Nat.le_of_ble_eq_true rfl) (fun p e s m args below meth c A ls E h hl => ?_)
  unfold f_X9_throwsOne at hf
  refine lv_aload_n E.1 E.2.1 dX9_throwsOne_0 rfl (lv_at hl 0 rfl) ?_
  refine lv_iload_n E.1 E.2.1 dX9_throwsOne_1 rfl (lv_at hl 1 rfl) ?_
  refine x_br hf (lv_if_eq (tgt := 9) E.1 E.2.1 dX9_throwsOne_2 (by decide)) (fun hf => ?_) (fun hf => ?_)
  · refine lv_iconst (v := 0) E.1 E.2.1 dX9_throwsOne_9 (by decide) ?_
    refine x_put (ty := .int) E h 0 16 hf rfl rfl rfl (by decide) xinX9 tyX9_ok nmX9 kw1626 rfl (by decide +kernel) rfl rfl dX9_throwsOne_10 (fun S1 H locs hf h => ?_)
    refine lv_iload_n E.1 E.2.1 dX9_throwsOne_13 rfl (lv_at hl 1 rfl) ?_
    exact x_zret E h hf dX9_throwsOne_14
  · refine lv_iconst (v := 1) E.1 E.2.1 dX9_throwsOne_5 (by decide) ?_
    refine lv_goto (tgt := 10) E.1 E.2.1 dX9_throwsOne_6 (by decide) ?_
    refine x_put (ty := .int) E h 0 16 hf rfl rfl rfl (by decide) xinX9 tyX9_ok nmX9 kw1626 rfl (by decide +kernel) rfl rfl dX9_throwsOne_10 (fun S2 H locs hf h => ?_)
    refine lv_iload_n E.1 E.2.1 dX9_throwsOne_13 rfl (lv_at hl 1 rfl) ?_
    exact x_zret E h hf dX9_throwsOne_14
set_option maxHeartbeats 4000000 in
set_option maxRecDepth 100000 in
theorem c_X9_throwsOne_ (l : Launch) (D : va_G) (cy : Nat → ClassId) (s00 : State) (ad : Nat → Nat) (S : XS) (p0 p1 : Int32) (r9 : Int32) (S9 : XS) (hf : f_X9_throwsOne_ S p0 p1 = some (r9, S9)) : XI l yX9_throwsOne_ cX9_throwsOne_ 3 (some .boolean) 0 D cy s00 shMod ad S [.ref (ad 0), .int p0, .int p1] r9 S9 := by
  refine XI.of (by decide) [(0, .ref (ad 0)), (1, .int p0), (2, .int p1)] rfl (Nat.le_of_ble_eq_true rfl) (fun p e s m args below meth c A ls E h hl => ?_)
  unfold f_X9_throwsOne_ at hf
  refine lv_aload_n E.1 E.2.1 dX9_throwsOne__0 rfl (lv_at hl 0 rfl) ?_
  refine lv_iload_n E.1 E.2.1 dX9_throwsOne__1 rfl (lv_at hl 1 rfl) ?_
  refine x_br hf (lv_if_eq (tgt := 9) E.1 E.2.1 dX9_throwsOne__2 (by decide)) (fun hf => ?_) (fun hf => ?_)
  · refine lv_iload_n E.1 E.2.1 dX9_throwsOne__9 rfl (lv_at hl 2 rfl) ?_
    refine x_br hf (lv_if_eq (tgt := 17) E.1 E.2.1 dX9_throwsOne__10 (by decide)) (fun hf => ?_) (fun hf => ?_)
    · refine lv_iconst (v := 0) E.1 E.2.1 dX9_throwsOne__17 (by decide) ?_
      refine x_put (ty := .int) E h 0 16 hf rfl rfl rfl (by decide) xinX9 tyX9_ok nmX9 kw1626 rfl (by decide +kernel) rfl rfl dX9_throwsOne__18 (fun S1 H locs hf h => ?_)
      refine lv_iload_n E.1 E.2.1 dX9_throwsOne__21 rfl (lv_at hl 1 rfl) ?_
      refine x_brn hf (lv_if_ne (tgt := 29) E.1 E.2.1 dX9_throwsOne__22 (by decide)) (fun hf => ?_) (fun hf => ?_)
      · refine lv_iconst (v := 1) E.1 E.2.1 dX9_throwsOne__29 (by decide) ?_
        refine lv_goto (tgt := 34) E.1 E.2.1 dX9_throwsOne__30 (by decide) ?_
        exact x_zic E h (by decide) hf dX9_throwsOne__34
      · refine lv_iload_n E.1 E.2.1 dX9_throwsOne__25 rfl (lv_at hl 2 rfl) ?_
        refine x_br hf (lv_if_eq (tgt := 33) E.1 E.2.1 dX9_throwsOne__26 (by decide)) (fun hf => ?_) (fun hf => ?_)
        · refine lv_iconst (v := 0) E.1 E.2.1 dX9_throwsOne__33 (by decide) ?_
          exact x_zic E h (by decide) hf dX9_throwsOne__34
        · refine lv_iconst (v := 1) E.1 E.2.1 dX9_throwsOne__29 (by decide) ?_
          refine lv_goto (tgt := 34) E.1 E.2.1 dX9_throwsOne__30 (by decide) ?_
          exact x_zic E h (by decide) hf dX9_throwsOne__34
    · refine lv_iconst (v := 2) E.1 E.2.1 dX9_throwsOne__13 (by decide) ?_
      refine lv_goto (tgt := 18) E.1 E.2.1 dX9_throwsOne__14 (by decide) ?_
      refine x_put (ty := .int) E h 0 16 hf rfl rfl rfl (by decide) xinX9 tyX9_ok nmX9 kw1626 rfl (by decide +kernel) rfl rfl dX9_throwsOne__18 (fun S2 H locs hf h => ?_)
      refine lv_iload_n E.1 E.2.1 dX9_throwsOne__21 rfl (lv_at hl 1 rfl) ?_
      refine x_brn hf (lv_if_ne (tgt := 29) E.1 E.2.1 dX9_throwsOne__22 (by decide)) (fun hf => ?_) (fun hf => ?_)
      · refine lv_iconst (v := 1) E.1 E.2.1 dX9_throwsOne__29 (by decide) ?_
        refine lv_goto (tgt := 34) E.1 E.2.1 dX9_throwsOne__30 (by decide) ?_
        exact x_zic E h (by decide) hf dX9_throwsOne__34
      · refine lv_iload_n E.1 E.2.1 dX9_throwsOne__25 rfl (lv_at hl 2 rfl) ?_
        refine x_br hf (lv_if_eq (tgt := 33) E.1 E.2.1 dX9_throwsOne__26 (by decide)) (fun hf => ?_) (fun hf => ?_)
        · refine lv_iconst (v := 0) E.1 E.2.1 dX9_throwsOne__33 (by decide) ?_
          exact x_zic E h (by decide) hf dX9_throwsOne__34
        · refine lv_iconst (v := 1) E.1 E.2.1 dX9_throwsOne__29 (by decide) ?_
          refine lv_goto (tgt := 34) E.1 E.2.1 dX9_throwsOne__30 (by decide) ?_
          exact x_zic E h (by decide) hf dX9_throwsOne__34
  · refine lv_iconst (v := 1) E.1 E.2.1 dX9_throwsOne__5 (by decide) ?_
    refine lv_goto (tgt := 18) E.1 E.2.1 dX9_throwsOne__6 (by decide) ?_
    refine x_put (ty := .int) E h 0 16 hf rfl rfl rfl (by decide) xinX9 tyX9_ok nmX9 kw1626 rfl (by decide +kernel) rfl rfl dX9_throwsOne__18 (fun S3 H locs hf h => ?_)
    refine lv_iload_n E.1 E.2.1 dX9_throwsOne__21 rfl (lv_at hl 1 rfl) ?_
    refine x_brn hf (lv_if_ne (tgt := 29) E.1 E.2.1 dX9_throwsOne__22 (by decide)) (fun hf => ?_) (fun hf => ?_)
    · refine lv_iconst (v := 1) E.1 E.2.1 dX9_throwsOne__29 (by decide) ?_
      refine lv_goto (tgt := 34) E.1 E.2.1 dX9_throwsOne__30 (by decide) ?_
      exact x_zic E h (by decide) hf dX9_throwsOne__34
    · refine lv_iload_n E.1 E.2.1 dX9_throwsOne__25 rfl (lv_at hl 2 rfl) ?_
      refine x_br hf (lv_if_eq (tgt := 33) E.1 E.2.1 dX9_throwsOne__26 (by decide)) (fun hf => ?_) (fun hf => ?_)
      · refine lv_iconst (v := 0) E.1 E.2.1 dX9_throwsOne__33 (by decide) ?_
        exact x_zic E h (by decide) hf dX9_throwsOne__34
      · refine lv_iconst (v := 1) E.1 E.2.1 dX9_throwsOne__29 (by decide) ?_
        refine lv_goto (tgt := 34) E.1 E.2.1 dX9_throwsOne__30 (by decide) ?_
        exact x_zic E h (by decide) hf dX9_throwsOne__34
set_option maxHeartbeats 4000000 in
set_option maxRecDepth 100000 in
theorem c_X9_throwsOne__ (l : Launch) (D : va_G) (cy : Nat → ClassId) (s00 : State) (ad : Nat → Nat) (S : XS) (p0 p1 p2 : Int32) (r9 : Int32) (S9 : XS) (hf : f_X9_throwsOne__ S p0 p1 p2 = some (r9, S9)) : XI l yX9_throwsOne__ cX9_throwsOne__ 4 (some .boolean) 0 D cy s00 shMod ad S [.ref (ad 0), .int p0, .int p1, .int p2] r9 S9 := by
  refine XI.of (by decide) [(0, .ref (ad 0)), (1, .int p0), (2, .int p1), (3, .int p2)] rfl (Nat.le_of_ble_eq_true rfl) (fun p e s m args below meth c A ls E h hl => ?_)
  unfold f_X9_throwsOne__ at hf
  refine lv_aload_n E.1 E.2.1 dX9_throwsOne___0 rfl (lv_at hl 0 rfl) ?_
  refine lv_iload_n E.1 E.2.1 dX9_throwsOne___1 rfl (lv_at hl 1 rfl) ?_
  refine x_br hf (lv_if_eq (tgt := 9) E.1 E.2.1 dX9_throwsOne___2 (by decide)) (fun hf => ?_) (fun hf => ?_)
  · refine lv_iload_n E.1 E.2.1 dX9_throwsOne___9 rfl (lv_at hl 2 rfl) ?_
    refine x_br hf (lv_if_eq (tgt := 17) E.1 E.2.1 dX9_throwsOne___10 (by decide)) (fun hf => ?_) (fun hf => ?_)
    · refine lv_iload_n E.1 E.2.1 dX9_throwsOne___17 rfl (lv_at hl 3 rfl) ?_
      refine x_br hf (lv_if_eq (tgt := 25) E.1 E.2.1 dX9_throwsOne___18 (by decide)) (fun hf => ?_) (fun hf => ?_)
      · refine lv_iconst (v := 0) E.1 E.2.1 dX9_throwsOne___25 (by decide) ?_
        refine x_put (ty := .int) E h 0 16 hf rfl rfl rfl (by decide) xinX9 tyX9_ok nmX9 kw1626 rfl (by decide +kernel) rfl rfl dX9_throwsOne___26 (fun S1 H locs hf h => ?_)
        refine lv_iload_n E.1 E.2.1 dX9_throwsOne___29 rfl (lv_at hl 1 rfl) ?_
        refine x_brn hf (lv_if_ne (tgt := 41) E.1 E.2.1 dX9_throwsOne___30 (by decide)) (fun hf => ?_) (fun hf => ?_)
        · refine lv_iconst (v := 1) E.1 E.2.1 dX9_throwsOne___41 (by decide) ?_
          refine lv_goto (tgt := 46) E.1 E.2.1 dX9_throwsOne___42 (by decide) ?_
          exact x_zic E h (by decide) hf dX9_throwsOne___46
        · refine lv_iload_n E.1 E.2.1 dX9_throwsOne___33 rfl (lv_at hl 2 rfl) ?_
          refine x_brn hf (lv_if_ne (tgt := 41) E.1 E.2.1 dX9_throwsOne___34 (by decide)) (fun hf => ?_) (fun hf => ?_)
          · refine lv_iconst (v := 1) E.1 E.2.1 dX9_throwsOne___41 (by decide) ?_
            refine lv_goto (tgt := 46) E.1 E.2.1 dX9_throwsOne___42 (by decide) ?_
            exact x_zic E h (by decide) hf dX9_throwsOne___46
          · refine lv_iload_n E.1 E.2.1 dX9_throwsOne___37 rfl (lv_at hl 3 rfl) ?_
            refine x_br hf (lv_if_eq (tgt := 45) E.1 E.2.1 dX9_throwsOne___38 (by decide)) (fun hf => ?_) (fun hf => ?_)
            · refine lv_iconst (v := 0) E.1 E.2.1 dX9_throwsOne___45 (by decide) ?_
              exact x_zic E h (by decide) hf dX9_throwsOne___46
            · refine lv_iconst (v := 1) E.1 E.2.1 dX9_throwsOne___41 (by decide) ?_
              refine lv_goto (tgt := 46) E.1 E.2.1 dX9_throwsOne___42 (by decide) ?_
              exact x_zic E h (by decide) hf dX9_throwsOne___46
      · refine lv_iconst (v := 3) E.1 E.2.1 dX9_throwsOne___21 (by decide) ?_
        refine lv_goto (tgt := 26) E.1 E.2.1 dX9_throwsOne___22 (by decide) ?_
        refine x_put (ty := .int) E h 0 16 hf rfl rfl rfl (by decide) xinX9 tyX9_ok nmX9 kw1626 rfl (by decide +kernel) rfl rfl dX9_throwsOne___26 (fun S2 H locs hf h => ?_)
        refine lv_iload_n E.1 E.2.1 dX9_throwsOne___29 rfl (lv_at hl 1 rfl) ?_
        refine x_brn hf (lv_if_ne (tgt := 41) E.1 E.2.1 dX9_throwsOne___30 (by decide)) (fun hf => ?_) (fun hf => ?_)
        · refine lv_iconst (v := 1) E.1 E.2.1 dX9_throwsOne___41 (by decide) ?_
          refine lv_goto (tgt := 46) E.1 E.2.1 dX9_throwsOne___42 (by decide) ?_
          exact x_zic E h (by decide) hf dX9_throwsOne___46
        · refine lv_iload_n E.1 E.2.1 dX9_throwsOne___33 rfl (lv_at hl 2 rfl) ?_
          refine x_brn hf (lv_if_ne (tgt := 41) E.1 E.2.1 dX9_throwsOne___34 (by decide)) (fun hf => ?_) (fun hf => ?_)
          · refine lv_iconst (v := 1) E.1 E.2.1 dX9_throwsOne___41 (by decide) ?_
            refine lv_goto (tgt := 46) E.1 E.2.1 dX9_throwsOne___42 (by decide) ?_
            exact x_zic E h (by decide) hf dX9_throwsOne___46
          · refine lv_iload_n E.1 E.2.1 dX9_throwsOne___37 rfl (lv_at hl 3 rfl) ?_
            refine x_br hf (lv_if_eq (tgt := 45) E.1 E.2.1 dX9_throwsOne___38 (by decide)) (fun hf => ?_) (fun hf => ?_)
            · refine lv_iconst (v := 0) E.1 E.2.1 dX9_throwsOne___45 (by decide) ?_
              exact x_zic E h (by decide) hf dX9_throwsOne___46
            · refine lv_iconst (v := 1) E.1 E.2.1 dX9_throwsOne___41 (by decide) ?_
              refine lv_goto (tgt := 46) E.1 E.2.1 dX9_throwsOne___42 (by decide) ?_
              exact x_zic E h (by decide) hf dX9_throwsOne___46
    · refine lv_iconst (v := 2) E.1 E.2.1 dX9_throwsOne___13 (by decide) ?_
      refine lv_goto (tgt := 26) E.1 E.2.1 dX9_throwsOne___14 (by decide) ?_
      refine x_put (ty := .int) E h 0 16 hf rfl rfl rfl (by decide) xinX9 tyX9_ok nmX9 kw1626 rfl (by decide +kernel) rfl rfl dX9_throwsOne___26 (fun S3 H locs hf h => ?_)
      refine lv_iload_n E.1 E.2.1 dX9_throwsOne___29 rfl (lv_at hl 1 rfl) ?_
      refine x_brn hf (lv_if_ne (tgt := 41) E.1 E.2.1 dX9_throwsOne___30 (by decide)) (fun hf => ?_) (fun hf => ?_)
      · refine lv_iconst (v := 1) E.1 E.2.1 dX9_throwsOne___41 (by decide) ?_
        refine lv_goto (tgt := 46) E.1 E.2.1 dX9_throwsOne___42 (by decide) ?_
        exact x_zic E h (by decide) hf dX9_throwsOne___46
      · refine lv_iload_n E.1 E.2.1 dX9_throwsOne___33 rfl (lv_at hl 2 rfl) ?_
        refine x_brn hf (lv_if_ne (tgt := 41) E.1 E.2.1 dX9_throwsOne___34 (by decide)) (fun hf => ?_) (fun hf => ?_)
        · refine lv_iconst (v := 1) E.1 E.2.1 dX9_throwsOne___41 (by decide) ?_
          refine lv_goto (tgt := 46) E.1 E.2.1 dX9_throwsOne___42 (by decide) ?_
          exact x_zic E h (by decide) hf dX9_throwsOne___46
        · refine lv_iload_n E.1 E.2.1 dX9_throwsOne___37 rfl (lv_at hl 3 rfl) ?_
          refine x_br hf (lv_if_eq (tgt := 45) E.1 E.2.1 dX9_throwsOne___38 (by decide)) (fun hf => ?_) (fun hf => ?_)
          · refine lv_iconst (v := 0) E.1 E.2.1 dX9_throwsOne___45 (by decide) ?_
            exact x_zic E h (by decide) hf dX9_throwsOne___46
          · refine lv_iconst (v := 1) E.1 E.2.1 dX9_throwsOne___41 (by decide) ?_
            refine lv_goto (tgt := 46) E.1 E.2.1 dX9_throwsOne___42 (by decide) ?_
            exact x_zic E h (by decide) hf dX9_throwsOne___46
  · refine lv_iconst (v := 1) E.1 E.2.1 dX9_throwsOne___5 (by decide) ?_
    refine lv_goto (tgt := 26) E.1 E.2.1 dX9_throwsOne___6 (by decide) ?_
    refine x_put (ty := .int) E h 0 16 hf rfl rfl rfl (by decide) xinX9 tyX9_ok nmX9 kw1626 rfl (by decide +kernel) rfl rfl dX9_throwsOne___26 (fun S4 H locs hf h => ?_)
    refine lv_iload_n E.1 E.2.1 dX9_throwsOne___29 rfl (lv_at hl 1 rfl) ?_
    refine x_brn hf (lv_if_ne (tgt := 41) E.1 E.2.1 dX9_throwsOne___30 (by decide)) (fun hf => ?_) (fun hf => ?_)
    · refine lv_iconst (v := 1) E.1 E.2.1 dX9_throwsOne___41 (by decide) ?_
      refine lv_goto (tgt := 46) E.1 E.2.1 dX9_throwsOne___42 (by decide) ?_
      exact x_zic E h (by decide) hf dX9_throwsOne___46
    · refine lv_iload_n E.1 E.2.1 dX9_throwsOne___33 rfl (lv_at hl 2 rfl) ?_
      refine x_brn hf (lv_if_ne (tgt := 41) E.1 E.2.1 dX9_throwsOne___34 (by decide)) (fun hf => ?_) (fun hf => ?_)
      · refine lv_iconst (v := 1) E.1 E.2.1 dX9_throwsOne___41 (by decide) ?_
        refine lv_goto (tgt := 46) E.1 E.2.1 dX9_throwsOne___42 (by decide) ?_
        exact x_zic E h (by decide) hf dX9_throwsOne___46
      · refine lv_iload_n E.1 E.2.1 dX9_throwsOne___37 rfl (lv_at hl 3 rfl) ?_
        refine x_br hf (lv_if_eq (tgt := 45) E.1 E.2.1 dX9_throwsOne___38 (by decide)) (fun hf => ?_) (fun hf => ?_)
        · refine lv_iconst (v := 0) E.1 E.2.1 dX9_throwsOne___45 (by decide) ?_
          exact x_zic E h (by decide) hf dX9_throwsOne___46
        · refine lv_iconst (v := 1) E.1 E.2.1 dX9_throwsOne___41 (by decide) ?_
          refine lv_goto (tgt := 46) E.1 E.2.1 dX9_throwsOne___42 (by decide) ?_
          exact x_zic E h (by decide) hf dX9_throwsOne___46
set_option maxHeartbeats 4000000 in
set_option maxRecDepth 100000 in
theorem c_X9_isChimney (l : Launch) (D : va_G) (cy : Nat → ClassId) (s00 : State) (ad : Nat → Nat) (S : XS) (p0 : Int32) (r9 : Int32) (hf : f_X9_isChimney S p0 = some r9) : XI l yX9_isChimney cX9_isChimney 2 (some .boolean) 1 D cy s00 shMod ad S [.ref (ad 0), .int p0] r9 S := by
  refine XI.of (by decide) [(0, .ref (ad 0)), (1, .int p0)] rfl (Nat.le_of_ble_eq_true rfl) (fun p e s m args below meth c A ls E h hl => ?_)
  unfold f_X9_isChimney at hf
  refine lv_iload_n E.1 E.2.1 dX9_isChimney_0 rfl (lv_at hl 1 rfl) ?_
  refine lv_iconst (v := 0) E.1 E.2.1 dX9_isChimney_1 (by decide) ?_
  refine lv_aload_n E.1 E.2.1 dX9_isChimney_2 rfl (lv_at hl 0 rfl) ?_
  refine x_getr E h 0 0 1 rfl rfl rfl (by decide) xinX9 kw1610 dX9_isChimney_3 ?_
  refine lv_iconst (v := 0) E.1 E.2.1 dX9_isChimney_6 (by decide) ?_
  refine x_iald E h 1 hf rfl dX9_isChimney_7 (fun v1 hf => ?_)
  refine lv_iconst (v := 1) E.1 E.2.1 dX9_isChimney_8 (by decide) ?_
  refine lv_isub E.1 E.2.1 dX9_isChimney_9 ?_
  refine x_callsp E h hl hf (fun r0 hr => c_X9_in l D cy s00 _ _ p0 0 (v1 - 1) r0 hr) m_X9_in kw1378 rfl rfl (Nat.le_of_ble_eq_true rfl) ⟨by decide, by decide⟩ ⟨Nat.zero_le _, Nat.zero_le _⟩ dX9_isChimney_10 (fun v2 H locs hf h => ?_)
  exact x_zrp E h hf dX9_isChimney_13
set_option maxHeartbeats 4000000 in
set_option maxRecDepth 100000 in
theorem c_X9_isGutter (l : Launch) (D : va_G) (cy : Nat → ClassId) (s00 : State) (ad : Nat → Nat) (S : XS) (p0 : Int32) (r9 : Int32) (hf : f_X9_isGutter S p0 = some r9) : XI l yX9_isGutter cX9_isGutter 2 (some .boolean) 1 D cy s00 shMod ad S [.ref (ad 0), .int p0] r9 S := by
  refine XI.of (by decide) [(0, .ref (ad 0)), (1, .int p0)] rfl (Nat.le_of_ble_eq_true rfl) (fun p e s m args below meth c A ls E h hl => ?_)
  unfold f_X9_isGutter at hf
  refine lv_iload_n E.1 E.2.1 dX9_isGutter_0 rfl (lv_at hl 1 rfl) ?_
  refine lv_iconst (v := 0) E.1 E.2.1 dX9_isGutter_1 (by decide) ?_
  refine lv_aload_n E.1 E.2.1 dX9_isGutter_2 rfl (lv_at hl 0 rfl) ?_
  refine x_getr E h 0 0 1 rfl rfl rfl (by decide) xinX9 kw1610 dX9_isGutter_3 ?_
  refine lv_iconst (v := 1) E.1 E.2.1 dX9_isGutter_6 (by decide) ?_
  refine x_iald E h 1 hf rfl dX9_isGutter_7 (fun v1 hf => ?_)
  refine lv_iconst (v := 1) E.1 E.2.1 dX9_isGutter_8 (by decide) ?_
  refine lv_isub E.1 E.2.1 dX9_isGutter_9 ?_
  refine x_callsp E h hl hf (fun r0 hr => c_X9_in l D cy s00 _ _ p0 0 (v1 - 1) r0 hr) m_X9_in kw1378 rfl rfl (Nat.le_of_ble_eq_true rfl) ⟨by decide, by decide⟩ ⟨Nat.zero_le _, Nat.zero_le _⟩ dX9_isGutter_10 (fun v2 H locs hf h => ?_)
  exact x_zrp E h hf dX9_isGutter_13
set_option maxHeartbeats 4000000 in
set_option maxRecDepth 100000 in
theorem c_X9_isCat (l : Launch) (D : va_G) (cy : Nat → ClassId) (s00 : State) (ad : Nat → Nat) (S : XS) (p0 : Int32) (r9 : Int32) (hf : f_X9_isCat S p0 = some r9) : XI l yX9_isCat cX9_isCat 2 (some .boolean) 1 D cy s00 shMod ad S [.ref (ad 0), .int p0] r9 S := by
  refine XI.of (by decide) [(0, .ref (ad 0)), (1, .int p0)] rfl (Nat.le_of_ble_eq_true rfl) (fun p e s m args below meth c A ls E h hl => ?_)
  unfold f_X9_isCat at hf
  refine lv_iload_n E.1 E.2.1 dX9_isCat_0 rfl (lv_at hl 1 rfl) ?_
  refine lv_iconst (v := 0) E.1 E.2.1 dX9_isCat_1 (by decide) ?_
  refine lv_aload_n E.1 E.2.1 dX9_isCat_2 rfl (lv_at hl 0 rfl) ?_
  refine x_getr E h 0 0 1 rfl rfl rfl (by decide) xinX9 kw1610 dX9_isCat_3 ?_
  refine lv_iconst (v := 2) E.1 E.2.1 dX9_isCat_6 (by decide) ?_
  refine x_iald E h 1 hf rfl dX9_isCat_7 (fun v1 hf => ?_)
  refine lv_iconst (v := 1) E.1 E.2.1 dX9_isCat_8 (by decide) ?_
  refine lv_isub E.1 E.2.1 dX9_isCat_9 ?_
  refine x_callsp E h hl hf (fun r0 hr => c_X9_in l D cy s00 _ _ p0 0 (v1 - 1) r0 hr) m_X9_in kw1378 rfl rfl (Nat.le_of_ble_eq_true rfl) ⟨by decide, by decide⟩ ⟨Nat.zero_le _, Nat.zero_le _⟩ dX9_isCat_10 (fun v2 H locs hf h => ?_)
  exact x_zrp E h hf dX9_isCat_13
set_option maxHeartbeats 4000000 in
set_option maxRecDepth 100000 in
theorem w_X9_spreads_L3 {p : Program} {l : Launch} {e : Env} {s : State} {m : MethodId} {args : Array Value} {below : List Frame} {meth : Method} {c : Code} {D : va_G} {cy : Nat → ClassId} {s00 : State} {ad : Nat → Nat} {A : Nat → Prop}  {S9 : XS} {u1 : Int32} {u2 : Int32} {u3 : Int32} {K : Int32 → XS → Option (XS)} (E : XE p s m args meth c cX9_spreads 6 RX9 none D cy s00) (hk : ∀ (m4 : Int32) (S1 : XS) (H : Heap) (locs : List Loc) (ls : Array Slot), K m4 S1 = some S9 → XH D cy s00 shMod ad S1 A s H locs → lv_has ls 6 [(0, .ref (ad 0)), (1, .int u1), (2, .int u2), (3, .int u3), (4, .int m4)] → W p l e (xrm 3) s m args below meth c H locs 0 0 (MQ below (xqv D cy shMod ad S9 A) args s 0 0 A) (F0 m 80 ls [])) :
    ∀ (n : Nat) (m4 : Int32) (S : XS) (H : Heap) (locs : List Loc) (ls : Array Slot), f_X9_spreads_L3 K u1 u2 u3 n m4 S = some S9 → XH D cy s00 shMod ad S A s H locs → lv_has ls 6 [(0, .ref (ad 0)), (1, .int u1), (2, .int u2), (3, .int u3), (4, .int m4)] → W p l e (xrm 3) s m args below meth c H locs 0 0 (MQ below (xqv D cy shMod ad S9 A) args s 0 0 A) (F0 m 3 ls []) := by
  intro n
  induction n with
  | zero => intro m4 S H locs ls hf; cases hf
  | succ n ih =>
    intro m4 S H locs ls hf h hl
    rw [f_X9_spreads_L3] at hf
    refine lv_iload E.1 E.2.1 dX9_spreads_3 (lv_at hl 4 rfl) ?_
    refine lv_aload_n E.1 E.2.1 dX9_spreads_5 rfl (lv_at hl 0 rfl) ?_
    refine x_getr E h 0 0 1 rfl rfl rfl (by decide) xinX9 kw1610 dX9_spreads_6 ?_
    refine lv_iconst (v := 1) E.1 E.2.1 dX9_spreads_9 (by decide) ?_
    refine x_iald E h 1 hf rfl dX9_spreads_10 (fun v1 hf => ?_)
    refine x_br hf (lv_icmp_ge (tgt := 80) E.1 E.2.1 dX9_spreads_11 (by decide)) (fun hf => ?_) (fun hf => ?_)
    · exact hk _ _ _ _ _ hf h (lv_sub hl [0, 1, 2, 3, 4] rfl)
    · refine lv_aload_n E.1 E.2.1 dX9_spreads_14 rfl (lv_at hl 0 rfl) ?_
      refine lv_iload E.1 E.2.1 dX9_spreads_15 (lv_at hl 4 rfl) ?_
      refine lv_iload_n E.1 E.2.1 dX9_spreads_17 rfl (lv_at hl 2 rfl) ?_
      refine x_callp E h hl 0 hf (fun r0 hr => c_X9_across l D cy s00 _ S m4 u2 r0 hr) m_X9_across rfl rfl kw1453 rfl rfl (Nat.le_of_ble_eq_true rfl) ⟨by decide, by decide⟩ ⟨Nat.zero_le _, Nat.zero_le _⟩ dX9_spreads_18 (fun v2 H locs hf h => ?_)
      refine lv_istore (lv' := [(5, .int v2), (0, .ref (ad 0)), (1, .int u1), (2, .int u2), (3, .int u3), (4, .int m4)]) E.1 E.2.1 dX9_spreads_21 hl (by decide) rfl (fun ls hl => ?_)
      refine lv_iload E.1 E.2.1 dX9_spreads_23 (lv_at hl 0 rfl) ?_
      refine lv_iconst (v := (-1)) E.1 E.2.1 dX9_spreads_25 (by decide) ?_
      refine x_br hf (lv_icmp_eq (tgt := 74) E.1 E.2.1 dX9_spreads_26 (by decide)) (fun hf => ?_) (fun hf => ?_)
      · refine x_nv hf (fun v3 e9 hf => ?_)
        refine lv_iinc (v := v3) (lv' := [(4, .int v3), (5, .int v2), (0, .ref (ad 0)), (1, .int u1), (2, .int u2), (3, .int u3)]) E.1 E.2.1 dX9_spreads_74 hl (k := 5) rfl (by rw [e9]; rfl) (by decide) rfl (fun ls hl => ?_)
        refine lv_goto (tgt := 3) E.1 E.2.1 dX9_spreads_77 (by decide) ?_
        exact ih _ _ _ _ _ hf h (lv_sub hl [2, 3, 4, 5, 0] rfl)
      · refine lv_aload_n E.1 E.2.1 dX9_spreads_29 rfl (lv_at hl 1 rfl) ?_
        refine x_getr E h 0 9 8 rfl rfl rfl (by decide) xinX9 kw1619 dX9_spreads_30 ?_
        refine lv_iload E.1 E.2.1 dX9_spreads_33 (lv_at hl 0 rfl) ?_
        refine x_iald E h 8 hf rfl dX9_spreads_35 (fun v4 hf => ?_)
        refine lv_iconst (v := (-1)) E.1 E.2.1 dX9_spreads_36 (by decide) ?_
        refine x_brn hf (lv_icmp_ne (tgt := 74) E.1 E.2.1 dX9_spreads_37 (by decide)) (fun hf => ?_) (fun hf => ?_)
        · refine x_nv hf (fun v5 e9 hf => ?_)
          refine lv_iinc (v := v5) (lv' := [(4, .int v5), (5, .int v2), (0, .ref (ad 0)), (1, .int u1), (2, .int u2), (3, .int u3)]) E.1 E.2.1 dX9_spreads_74 hl (k := 5) rfl (by rw [e9]; rfl) (by decide) rfl (fun ls hl => ?_)
          refine lv_goto (tgt := 3) E.1 E.2.1 dX9_spreads_77 (by decide) ?_
          exact ih _ _ _ _ _ hf h (lv_sub hl [2, 3, 4, 5, 0] rfl)
        · refine lv_aload_n E.1 E.2.1 dX9_spreads_40 rfl (lv_at hl 1 rfl) ?_
          refine lv_iload E.1 E.2.1 dX9_spreads_41 (lv_at hl 5 rfl) ?_
          refine lv_iconst (v := 2) E.1 E.2.1 dX9_spreads_43 (by decide) ?_
          refine x_callp E h hl 0 hf (fun r0 hr => c_X9_gutter l D cy s00 _ S m4 2 r0 hr) m_X9_gutter rfl rfl kw1457 rfl rfl (Nat.le_of_ble_eq_true rfl) ⟨by decide, by decide⟩ ⟨Nat.zero_le _, Nat.zero_le _⟩ dX9_spreads_44 (fun v6 H locs hf h => ?_)
          refine lv_aload_n E.1 E.2.1 dX9_spreads_47 rfl (lv_at hl 1 rfl) ?_
          refine lv_iload_n E.1 E.2.1 dX9_spreads_48 rfl (lv_at hl 2 rfl) ?_
          refine lv_iconst (v := 0) E.1 E.2.1 dX9_spreads_49 (by decide) ?_
          refine x_callp E h hl 0 hf (fun r0 hr => c_X9_of l D cy s00 _ S u1 0 r0 hr) m_X9_of rfl rfl kw1429 rfl rfl (Nat.le_of_ble_eq_true rfl) ⟨by decide, by decide⟩ ⟨Nat.zero_le _, Nat.zero_le _⟩ dX9_spreads_50 (fun v7 H locs hf h => ?_)
          refine x_br hf (lv_icmp_lt (tgt := 74) E.1 E.2.1 dX9_spreads_53 (by decide)) (fun hf => ?_) (fun hf => ?_)
          · refine x_nv hf (fun v8 e9 hf => ?_)
            refine lv_iinc (v := v8) (lv' := [(4, .int v8), (5, .int v2), (0, .ref (ad 0)), (1, .int u1), (2, .int u2), (3, .int u3)]) E.1 E.2.1 dX9_spreads_74 hl (k := 5) rfl (by rw [e9]; rfl) (by decide) rfl (fun ls hl => ?_)
            refine lv_goto (tgt := 3) E.1 E.2.1 dX9_spreads_77 (by decide) ?_
            exact ih _ _ _ _ _ hf h (lv_sub hl [2, 3, 4, 5, 0] rfl)
          · refine lv_aload_n E.1 E.2.1 dX9_spreads_56 rfl (lv_at hl 1 rfl) ?_
            refine lv_iload_n E.1 E.2.1 dX9_spreads_57 rfl (lv_at hl 2 rfl) ?_
            refine lv_iload E.1 E.2.1 dX9_spreads_58 (lv_at hl 0 rfl) ?_
            refine x_callp E h hl 0 hf (fun r0 hr => c_X9_whyNotIn l D cy s00 _ S u1 v2 r0 hr) m_X9_whyNotIn rfl rfl kw1461 rfl rfl (Nat.le_of_ble_eq_true rfl) ⟨by decide, by decide⟩ ⟨Nat.zero_le _, Nat.zero_le _⟩ dX9_spreads_60 (fun v9 H locs hf h => ?_)
            refine x_brn hf (lv_if_ne (tgt := 74) E.1 E.2.1 dX9_spreads_63 (by decide)) (fun hf => ?_) (fun hf => ?_)
            · refine x_nv hf (fun v10 e9 hf => ?_)
              refine lv_iinc (v := v10) (lv' := [(4, .int v10), (5, .int v2), (0, .ref (ad 0)), (1, .int u1), (2, .int u2), (3, .int u3)]) E.1 E.2.1 dX9_spreads_74 hl (k := 5) rfl (by rw [e9]; rfl) (by decide) rfl (fun ls hl => ?_)
              refine lv_goto (tgt := 3) E.1 E.2.1 dX9_spreads_77 (by decide) ?_
              exact ih _ _ _ _ _ hf h (lv_sub hl [2, 3, 4, 5, 0] rfl)
            · refine lv_aload_n E.1 E.2.1 dX9_spreads_66 rfl (lv_at hl 1 rfl) ?_
              refine x_getr E h 0 9 8 rfl rfl rfl (by decide) xinX9 kw1619 dX9_spreads_67 ?_
              refine lv_iload E.1 E.2.1 dX9_spreads_70 (lv_at hl 0 rfl) ?_
              refine lv_iload_n E.1 E.2.1 dX9_spreads_72 rfl (lv_at hl 4 rfl) ?_
              refine x_iast E h 8 hf rfl dX9_spreads_73 (fun S11 H locs hf h => ?_)
              refine x_nv hf (fun v13 e9 hf => ?_)
              refine lv_iinc (v := v13) (lv' := [(4, .int v13), (5, .int v2), (0, .ref (ad 0)), (1, .int u1), (2, .int u2), (3, .int u3)]) E.1 E.2.1 dX9_spreads_74 hl (k := 5) rfl (by rw [e9]; rfl) (by decide) rfl (fun ls hl => ?_)
              refine lv_goto (tgt := 3) E.1 E.2.1 dX9_spreads_77 (by decide) ?_
              exact ih _ _ _ _ _ hf h (lv_sub hl [2, 3, 4, 5, 0] rfl)
set_option maxHeartbeats 4000000 in
set_option maxRecDepth 100000 in
theorem c_X9_spreads (l : Launch) (D : va_G) (cy : Nat → ClassId) (s00 : State) (ad : Nat → Nat) (S : XS) (p0 p1 p2 : Int32) (S9 : XS) (hf : f_X9_spreads S p0 p1 p2 = some S9) : XV l yX9_spreads cX9_spreads 6 none 3 D cy s00 shMod ad S [.ref (ad 0), .int p0, .int p1, .int p2] S9 := by
  refine XV.of (by decide) [(0, .ref (ad 0)), (1, .int p0), (2, .int p1), (3, .int p2)] rfl (Nat.le_of_ble_eq_true rfl) (fun p e s m args below meth c A ls E h hl => ?_)
  unfold f_X9_spreads at hf
  refine lv_iconst (v := 0) E.1 E.2.1 dX9_spreads_0 (by decide) ?_
  refine lv_istore (lv' := [(4, .int 0), (0, .ref (ad 0)), (1, .int p0), (2, .int p1), (3, .int p2)]) E.1 E.2.1 dX9_spreads_1 hl (by decide) rfl (fun ls hl => ?_)
  refine w_X9_spreads_L3 E ?_ _ _ _ _ _ _ hf h (lv_sub hl [1, 2, 3, 4, 0] rfl)
  intro v14 S15 H locs ls hf h hl
  exact x_vret E h hf dX9_spreads_80
set_option maxHeartbeats 4000000 in
set_option maxRecDepth 100000 in
theorem w_X9_walks_L2 {p : Program} {l : Launch} {e : Env} {s : State} {m : MethodId} {args : Array Value} {below : List Frame} {meth : Method} {c : Code} {D : va_G} {cy : Nat → ClassId} {s00 : State} {ad : Nat → Nat} {A : Nat → Prop}  {S9 : XS} {u1 : Int32} {K : Int32 → XS → Option (XS)} (E : XE p s m args meth c cX9_walks 4 RX9 none D cy s00) (hk : ∀ (m2 : Int32) (S1 : XS) (H : Heap) (locs : List Loc) (ls : Array Slot), K m2 S1 = some S9 → XH D cy s00 shMod ad S1 A s H locs → lv_has ls 4 [(0, .ref (ad 0)), (1, .int u1), (2, .int m2)] → W p l e (xrm 4) s m args below meth c H locs 0 0 (MQ below (xqv D cy shMod ad S9 A) args s 0 0 A) (F0 m 21 ls [])) :
    ∀ (n : Nat) (m2 : Int32) (S : XS) (H : Heap) (locs : List Loc) (ls : Array Slot), f_X9_walks_L2 K u1 n m2 S = some S9 → XH D cy s00 shMod ad S A s H locs → lv_has ls 4 [(0, .ref (ad 0)), (1, .int u1), (2, .int m2)] → W p l e (xrm 4) s m args below meth c H locs 0 0 (MQ below (xqv D cy shMod ad S9 A) args s 0 0 A) (F0 m 2 ls []) := by
  intro n
  induction n with
  | zero => intro m2 S H locs ls hf; cases hf
  | succ n ih =>
    intro m2 S H locs ls hf h hl
    rw [f_X9_walks_L2] at hf
    refine lv_iload_n E.1 E.2.1 dX9_walks_2 rfl (lv_at hl 2 rfl) ?_
    refine lv_bipush (v := 10) E.1 E.2.1 dX9_walks_3 (by decide) ?_
    refine x_br hf (lv_icmp_ge (tgt := 21) E.1 E.2.1 dX9_walks_5 (by decide)) (fun hf => ?_) (fun hf => ?_)
    · exact hk _ _ _ _ _ hf h (lv_sub hl [0, 1, 2] rfl)
    · refine lv_aload_n E.1 E.2.1 dX9_walks_8 rfl (lv_at hl 0 rfl) ?_
      refine x_getr E h 0 9 8 rfl rfl rfl (by decide) xinX9 kw1619 dX9_walks_9 ?_
      refine lv_iload_n E.1 E.2.1 dX9_walks_12 rfl (lv_at hl 2 rfl) ?_
      refine lv_iconst (v := (-1)) E.1 E.2.1 dX9_walks_13 (by decide) ?_
      refine x_iast E h 8 hf rfl dX9_walks_14 (fun S1 H locs hf h => ?_)
      refine x_nv hf (fun v3 e9 hf => ?_)
      refine lv_iinc (v := v3) (lv' := [(2, .int v3), (0, .ref (ad 0)), (1, .int u1)]) E.1 E.2.1 dX9_walks_15 hl (k := 2) rfl (by rw [e9]; rfl) (by decide) rfl (fun ls hl => ?_)
      refine lv_goto (tgt := 2) E.1 E.2.1 dX9_walks_18 (by decide) ?_
      exact ih _ _ _ _ _ hf h (lv_sub hl [1, 2, 0] rfl)
set_option maxHeartbeats 4000000 in
set_option maxRecDepth 100000 in
theorem w_X9_walks_L47 {p : Program} {l : Launch} {e : Env} {s : State} {m : MethodId} {args : Array Value} {below : List Frame} {meth : Method} {c : Code} {D : va_G} {cy : Nat → ClassId} {s00 : State} {ad : Nat → Nat} {A : Nat → Prop}  {S9 : XS} {u1 : Int32} {u2 : Int32} {K : Int32 → XS → Option (XS)} (E : XE p s m args meth c cX9_walks 4 RX9 none D cy s00) (hk : ∀ (m3 : Int32) (S1 : XS) (H : Heap) (locs : List Loc) (ls : Array Slot), K m3 S1 = some S9 → XH D cy s00 shMod ad S1 A s H locs → lv_has ls 4 [(0, .ref (ad 0)), (1, .int u1), (2, .int u2), (3, .int m3)] → W p l e (xrm 4) s m args below meth c H locs 0 0 (MQ below (xqv D cy shMod ad S9 A) args s 0 0 A) (F0 m 82 ls [])) :
    ∀ (n : Nat) (m3 : Int32) (S : XS) (H : Heap) (locs : List Loc) (ls : Array Slot), f_X9_walks_L47 K u1 u2 n m3 S = some S9 → XH D cy s00 shMod ad S A s H locs → lv_has ls 4 [(0, .ref (ad 0)), (1, .int u1), (2, .int u2), (3, .int m3)] → W p l e (xrm 4) s m args below meth c H locs 0 0 (MQ below (xqv D cy shMod ad S9 A) args s 0 0 A) (F0 m 47 ls []) := by
  intro n
  induction n with
  | zero => intro m3 S H locs ls hf; cases hf
  | succ n ih =>
    intro m3 S H locs ls hf h hl
    rw [f_X9_walks_L47] at hf
    refine lv_iload_n E.1 E.2.1 dX9_walks_47 rfl (lv_at hl 3 rfl) ?_
    refine lv_aload_n E.1 E.2.1 dX9_walks_48 rfl (lv_at hl 0 rfl) ?_
    refine x_getr E h 0 0 1 rfl rfl rfl (by decide) xinX9 kw1610 dX9_walks_49 ?_
    refine lv_iconst (v := 0) E.1 E.2.1 dX9_walks_52 (by decide) ?_
    refine x_iald E h 1 hf rfl dX9_walks_53 (fun v10 hf => ?_)
    refine x_br hf (lv_icmp_ge (tgt := 82) E.1 E.2.1 dX9_walks_54 (by decide)) (fun hf => ?_) (fun hf => ?_)
    · exact hk _ _ _ _ _ hf h (lv_sub hl [0, 1, 2, 3] rfl)
    · refine lv_aload_n E.1 E.2.1 dX9_walks_57 rfl (lv_at hl 0 rfl) ?_
      refine x_getr E h 0 9 8 rfl rfl rfl (by decide) xinX9 kw1619 dX9_walks_58 ?_
      refine lv_iload_n E.1 E.2.1 dX9_walks_61 rfl (lv_at hl 3 rfl) ?_
      refine x_iald E h 8 hf rfl dX9_walks_62 (fun v11 hf => ?_)
      refine lv_iload_n E.1 E.2.1 dX9_walks_63 rfl (lv_at hl 2 rfl) ?_
      refine x_brn hf (lv_icmp_ne (tgt := 76) E.1 E.2.1 dX9_walks_64 (by decide)) (fun hf => ?_) (fun hf => ?_)
      · refine x_nv hf (fun v12 e9 hf => ?_)
        refine lv_iinc (v := v12) (lv' := [(3, .int v12), (0, .ref (ad 0)), (1, .int u1), (2, .int u2)]) E.1 E.2.1 dX9_walks_76 hl (k := 3) rfl (by rw [e9]; rfl) (by decide) rfl (fun ls hl => ?_)
        refine lv_goto (tgt := 47) E.1 E.2.1 dX9_walks_79 (by decide) ?_
        exact ih _ _ _ _ _ hf h (lv_sub hl [1, 2, 3, 0] rfl)
      · refine lv_aload_n E.1 E.2.1 dX9_walks_67 rfl (lv_at hl 0 rfl) ?_
        refine lv_iload_n E.1 E.2.1 dX9_walks_68 rfl (lv_at hl 1 rfl) ?_
        refine lv_iload_n E.1 E.2.1 dX9_walks_69 rfl (lv_at hl 3 rfl) ?_
        refine lv_iload_n E.1 E.2.1 dX9_walks_70 rfl (lv_at hl 2 rfl) ?_
        refine lv_iconst (v := 1) E.1 E.2.1 dX9_walks_71 (by decide) ?_
        refine lv_iadd E.1 E.2.1 dX9_walks_72 ?_
        refine x_callv E h hl 0 hf (fun r0 hr => c_X9_spreads l D cy s00 _ S u1 m3 (u2 + 1) r0 hr) m_X9_spreads rfl rfl kw1900 rfl rfl (Nat.le_of_ble_eq_true rfl) ⟨by decide, by decide⟩ ⟨Nat.zero_le _, Nat.zero_le _⟩ dX9_walks_73 (fun S13 H locs hf h => ?_)
        refine x_nv hf (fun v14 e9 hf => ?_)
        refine lv_iinc (v := v14) (lv' := [(3, .int v14), (0, .ref (ad 0)), (1, .int u1), (2, .int u2)]) E.1 E.2.1 dX9_walks_76 hl (k := 3) rfl (by rw [e9]; rfl) (by decide) rfl (fun ls hl => ?_)
        refine lv_goto (tgt := 47) E.1 E.2.1 dX9_walks_79 (by decide) ?_
        exact ih _ _ _ _ _ hf h (lv_sub hl [1, 2, 3, 0] rfl)
set_option maxHeartbeats 4000000 in
set_option maxRecDepth 100000 in
theorem w_X9_walks_L35 {p : Program} {l : Launch} {e : Env} {s : State} {m : MethodId} {args : Array Value} {below : List Frame} {meth : Method} {c : Code} {D : va_G} {cy : Nat → ClassId} {s00 : State} {ad : Nat → Nat} {A : Nat → Prop}  {S9 : XS} {u1 : Int32} {K : Int32 → XS → Option (XS)} (E : XE p s m args meth c cX9_walks 4 RX9 none D cy s00) (hk : ∀ (m2 : Int32) (S1 : XS) (H : Heap) (locs : List Loc) (ls : Array Slot), K m2 S1 = some S9 → XH D cy s00 shMod ad S1 A s H locs → lv_has ls 4 [(0, .ref (ad 0)), (1, .int u1), (2, .int m2)] → W p l e (xrm 4) s m args below meth c H locs 0 0 (MQ below (xqv D cy shMod ad S9 A) args s 0 0 A) (F0 m 88 ls [])) :
    ∀ (n : Nat) (m2 : Int32) (S : XS) (H : Heap) (locs : List Loc) (ls : Array Slot), f_X9_walks_L35 K u1 n m2 S = some S9 → XH D cy s00 shMod ad S A s H locs → lv_has ls 4 [(0, .ref (ad 0)), (1, .int u1), (2, .int m2)] → W p l e (xrm 4) s m args below meth c H locs 0 0 (MQ below (xqv D cy shMod ad S9 A) args s 0 0 A) (F0 m 35 ls []) := by
  intro n
  induction n with
  | zero => intro m2 S H locs ls hf; cases hf
  | succ n ih =>
    intro m2 S H locs ls hf h hl
    rw [f_X9_walks_L35] at hf
    refine lv_iload_n E.1 E.2.1 dX9_walks_35 rfl (lv_at hl 2 rfl) ?_
    refine lv_aload_n E.1 E.2.1 dX9_walks_36 rfl (lv_at hl 0 rfl) ?_
    refine x_getr E h 0 0 1 rfl rfl rfl (by decide) xinX9 kw1610 dX9_walks_37 ?_
    refine lv_iconst (v := 0) E.1 E.2.1 dX9_walks_40 (by decide) ?_
    refine x_iald E h 1 hf rfl dX9_walks_41 (fun v9 hf => ?_)
    refine x_br hf (lv_icmp_ge (tgt := 88) E.1 E.2.1 dX9_walks_42 (by decide)) (fun hf => ?_) (fun hf => ?_)
    · exact hk _ _ _ _ _ hf h (lv_sub hl [0, 1, 2] rfl)
    · refine lv_iconst (v := 0) E.1 E.2.1 dX9_walks_45 (by decide) ?_
      refine lv_istore_n (lv' := [(3, .int 0), (0, .ref (ad 0)), (1, .int u1), (2, .int m2)]) E.1 E.2.1 dX9_walks_46 rfl hl (by decide) rfl (fun ls hl => ?_)
      refine w_X9_walks_L47 E ?_ _ _ _ _ _ _ hf h (lv_sub hl [1, 2, 3, 0] rfl)
      intro v15 S16 H locs ls hf h hl
      refine x_nv hf (fun v17 e9 hf => ?_)
      refine lv_iinc (v := v17) (lv' := [(2, .int v17), (0, .ref (ad 0)), (1, .int u1), (3, .int v15)]) E.1 E.2.1 dX9_walks_82 hl (k := 2) rfl (by rw [e9]; rfl) (by decide) rfl (fun ls hl => ?_)
      refine lv_goto (tgt := 35) E.1 E.2.1 dX9_walks_85 (by decide) ?_
      exact ih _ _ _ _ _ hf h (lv_sub hl [1, 2, 0] rfl)
set_option maxHeartbeats 4000000 in
set_option maxRecDepth 100000 in
theorem c_X9_walks (l : Launch) (D : va_G) (cy : Nat → ClassId) (s00 : State) (ad : Nat → Nat) (S : XS) (p0 : Int32) (S9 : XS) (hf : f_X9_walks S p0 = some S9) : XV l yX9_walks cX9_walks 4 none 4 D cy s00 shMod ad S [.ref (ad 0), .int p0] S9 := by
  refine XV.of (by decide) [(0, .ref (ad 0)), (1, .int p0)] rfl (Nat.le_of_ble_eq_true rfl) (fun p e s m args below meth c A ls E h hl => ?_)
  unfold f_X9_walks at hf
  refine lv_iconst (v := 0) E.1 E.2.1 dX9_walks_0 (by decide) ?_
  refine lv_istore_n (lv' := [(2, .int 0), (0, .ref (ad 0)), (1, .int p0)]) E.1 E.2.1 dX9_walks_1 rfl hl (by decide) rfl (fun ls hl => ?_)
  refine w_X9_walks_L2 E ?_ _ _ _ _ _ _ hf h (lv_sub hl [1, 2, 0] rfl)
  intro v4 S5 H locs ls hf h hl
  refine lv_aload_n E.1 E.2.1 dX9_walks_21 rfl (lv_at hl 0 rfl) ?_
  refine x_getr E h 0 9 8 rfl rfl rfl (by decide) xinX9 kw1619 dX9_walks_22 ?_
  refine lv_aload_n E.1 E.2.1 dX9_walks_25 rfl (lv_at hl 0 rfl) ?_
  refine lv_iload_n E.1 E.2.1 dX9_walks_26 rfl (lv_at hl 1 rfl) ?_
  refine lv_iconst (v := 3) E.1 E.2.1 dX9_walks_27 (by decide) ?_
  refine x_callp E h hl 0 hf (fun r0 hr => c_X9_of l D cy s00 _ S5 p0 3 r0 hr) m_X9_of rfl rfl kw1429 rfl rfl (Nat.le_of_ble_eq_true rfl) ⟨by decide, by decide⟩ ⟨Nat.zero_le _, Nat.zero_le _⟩ dX9_walks_28 (fun v6 H locs hf h => ?_)
  refine lv_iconst (v := 0) E.1 E.2.1 dX9_walks_31 (by decide) ?_
  refine x_iast E h 8 hf rfl dX9_walks_32 (fun S7 H locs hf h => ?_)
  refine lv_iconst (v := 0) E.1 E.2.1 dX9_walks_33 (by decide) ?_
  refine lv_istore_n (lv' := [(2, .int 0), (0, .ref (ad 0)), (1, .int p0)]) E.1 E.2.1 dX9_walks_34 rfl hl (by decide) rfl (fun ls hl => ?_)
  refine w_X9_walks_L35 E ?_ _ _ _ _ _ _ hf h (lv_sub hl [1, 2, 0] rfl)
  intro v18 S19 H locs ls hf h hl
  exact x_vret E h hf dX9_walks_88
set_option maxHeartbeats 4000000 in
set_option maxRecDepth 100000 in
theorem w_X9_reachedBy_L21 {p : Program} {l : Launch} {e : Env} {s : State} {m : MethodId} {args : Array Value} {below : List Frame} {meth : Method} {c : Code} {D : va_G} {cy : Nat → ClassId} {s00 : State} {ad : Nat → Nat} {A : Nat → Prop}  {r9 : Int32} {u1 : Int32} {u2 : Int32} {u4 : Int32} {S : XS} {K : Int32 → Int32 → Option (Int32)} (E : XE p s m args meth c cX9_reachedBy 7 RX9 (some .int) D cy s00) (hk : ∀ (m3 m5 : Int32) (H : Heap) (locs : List Loc) (ls : Array Slot), K m3 m5 = some r9 → XH D cy s00 shMod ad S A s H locs → lv_has ls 7 [(0, .ref (ad 0)), (1, .int u1), (2, .int u2), (3, .int m3), (4, .int u4), (5, .int m5)] → W p l e (xrm 1) s m args below meth c H locs 0 0 (MQ below (xqi D cy shMod ad r9 S A) args s 0 0 A) (F0 m 86 ls [])) :
    ∀ (n : Nat) (m3 m5 : Int32) (H : Heap) (locs : List Loc) (ls : Array Slot), f_X9_reachedBy_L21 K S u1 u2 u4 n m3 m5 = some r9 → XH D cy s00 shMod ad S A s H locs → lv_has ls 7 [(0, .ref (ad 0)), (1, .int u1), (2, .int u2), (3, .int m3), (4, .int u4), (5, .int m5)] → W p l e (xrm 1) s m args below meth c H locs 0 0 (MQ below (xqi D cy shMod ad r9 S A) args s 0 0 A) (F0 m 21 ls []) := by
  intro n
  induction n with
  | zero => intro m3 m5 H locs ls hf; cases hf
  | succ n ih =>
    intro m3 m5 H locs ls hf h hl
    rw [f_X9_reachedBy_L21] at hf
    refine lv_iload E.1 E.2.1 dX9_reachedBy_21 (lv_at hl 5 rfl) ?_
    refine lv_aload_n E.1 E.2.1 dX9_reachedBy_23 rfl (lv_at hl 0 rfl) ?_
    refine x_getr E h 0 0 1 rfl rfl rfl (by decide) xinX9 kw1610 dX9_reachedBy_24 ?_
    refine lv_iconst (v := 1) E.1 E.2.1 dX9_reachedBy_27 (by decide) ?_
    refine x_iald E h 1 hf rfl dX9_reachedBy_28 (fun v3 hf => ?_)
    refine x_br hf (lv_icmp_ge (tgt := 86) E.1 E.2.1 dX9_reachedBy_29 (by decide)) (fun hf => ?_) (fun hf => ?_)
    · exact hk _ _ _ _ _ hf h (lv_sub hl [0, 1, 2, 3, 4, 5] rfl)
    · refine lv_iconst (v := 1) E.1 E.2.1 dX9_reachedBy_32 (by decide) ?_
      refine lv_aload_n E.1 E.2.1 dX9_reachedBy_33 rfl (lv_at hl 0 rfl) ?_
      refine lv_iload E.1 E.2.1 dX9_reachedBy_34 (lv_at hl 5 rfl) ?_
      refine lv_iconst (v := 0) E.1 E.2.1 dX9_reachedBy_36 (by decide) ?_
      refine x_callp E h hl 0 hf (fun r0 hr => c_X9_gutter l D cy s00 _ S m5 0 r0 hr) m_X9_gutter rfl rfl kw1457 rfl rfl (Nat.le_of_ble_eq_true rfl) ⟨by decide, by decide⟩ ⟨Nat.zero_le _, Nat.zero_le _⟩ dX9_reachedBy_37 (fun v4 H locs hf h => ?_)
      refine lv_ishl E.1 E.2.1 dX9_reachedBy_40 ?_
      refine lv_iconst (v := 1) E.1 E.2.1 dX9_reachedBy_41 (by decide) ?_
      refine lv_aload_n E.1 E.2.1 dX9_reachedBy_42 rfl (lv_at hl 0 rfl) ?_
      refine lv_iload E.1 E.2.1 dX9_reachedBy_43 (lv_at hl 5 rfl) ?_
      refine lv_iconst (v := 1) E.1 E.2.1 dX9_reachedBy_45 (by decide) ?_
      refine x_callp E h hl 0 hf (fun r0 hr => c_X9_gutter l D cy s00 _ S m5 1 r0 hr) m_X9_gutter rfl rfl kw1457 rfl rfl (Nat.le_of_ble_eq_true rfl) ⟨by decide, by decide⟩ ⟨Nat.zero_le _, Nat.zero_le _⟩ dX9_reachedBy_46 (fun v5 H locs hf h => ?_)
      refine lv_ishl E.1 E.2.1 dX9_reachedBy_49 ?_
      refine lv_ior E.1 E.2.1 dX9_reachedBy_50 ?_
      refine x_nm hf (fun v6 hf => ?_)
      refine lv_istore (lv' := [(6, .int v6), (0, .ref (ad 0)), (1, .int u1), (2, .int u2), (3, .int m3), (4, .int u4), (5, .int m5)]) E.1 E.2.1 dX9_reachedBy_51 hl (by decide) rfl (fun ls hl => ?_)
      refine lv_iload_n E.1 E.2.1 dX9_reachedBy_53 rfl (lv_at hl 4 rfl) ?_
      refine lv_aload_n E.1 E.2.1 dX9_reachedBy_54 rfl (lv_at hl 1 rfl) ?_
      refine lv_iload E.1 E.2.1 dX9_reachedBy_55 (lv_at hl 6 rfl) ?_
      refine lv_iconst (v := 2) E.1 E.2.1 dX9_reachedBy_57 (by decide) ?_
      refine x_callp E h hl 0 hf (fun r0 hr => c_X9_gutter l D cy s00 _ S m5 2 r0 hr) m_X9_gutter rfl rfl kw1457 rfl rfl (Nat.le_of_ble_eq_true rfl) ⟨by decide, by decide⟩ ⟨Nat.zero_le _, Nat.zero_le _⟩ dX9_reachedBy_58 (fun v7 H locs hf h => ?_)
      refine lv_iload_n E.1 E.2.1 dX9_reachedBy_61 rfl (lv_at hl 2 rfl) ?_
      refine x_br hf (lv_icmp_lt (tgt := 77) E.1 E.2.1 dX9_reachedBy_62 (by decide)) (fun hf => ?_) (fun hf => ?_)
      · refine lv_iconst (v := 0) E.1 E.2.1 dX9_reachedBy_77 (by decide) ?_
        refine lv_ior E.1 E.2.1 dX9_reachedBy_78 ?_
        refine x_nm hf (fun v8 hf => ?_)
        refine lv_istore_n (lv' := [(3, .int v8), (6, .int v6), (0, .ref (ad 0)), (1, .int u1), (2, .int u2), (4, .int u4), (5, .int m5)]) E.1 E.2.1 dX9_reachedBy_79 rfl hl (by decide) rfl (fun ls hl => ?_)
        refine x_nv hf (fun v9 e9 hf => ?_)
        refine lv_iinc (v := v9) (lv' := [(5, .int v9), (3, .int v8), (6, .int v6), (0, .ref (ad 0)), (1, .int u1), (2, .int u2), (4, .int u4)]) E.1 E.2.1 dX9_reachedBy_80 hl (k := 6) rfl (by rw [e9]; rfl) (by decide) rfl (fun ls hl => ?_)
        refine lv_goto (tgt := 21) E.1 E.2.1 dX9_reachedBy_83 (by decide) ?_
        exact ih _ _ _ _ _ hf h (lv_sub hl [3, 4, 5, 1, 6, 0] rfl)
      · refine lv_iload_n E.1 E.2.1 dX9_reachedBy_65 rfl (lv_at hl 4 rfl) ?_
        refine lv_iload E.1 E.2.1 dX9_reachedBy_66 (lv_at hl 0 rfl) ?_
        refine lv_iand E.1 E.2.1 dX9_reachedBy_68 ?_
        refine x_br hf (lv_if_eq (tgt := 77) E.1 E.2.1 dX9_reachedBy_69 (by decide)) (fun hf => ?_) (fun hf => ?_)
        · refine lv_iconst (v := 0) E.1 E.2.1 dX9_reachedBy_77 (by decide) ?_
          refine lv_ior E.1 E.2.1 dX9_reachedBy_78 ?_
          refine x_nm hf (fun v10 hf => ?_)
          refine lv_istore_n (lv' := [(3, .int v10), (6, .int v6), (0, .ref (ad 0)), (1, .int u1), (2, .int u2), (4, .int u4), (5, .int m5)]) E.1 E.2.1 dX9_reachedBy_79 rfl hl (by decide) rfl (fun ls hl => ?_)
          refine x_nv hf (fun v11 e9 hf => ?_)
          refine lv_iinc (v := v11) (lv' := [(5, .int v11), (3, .int v10), (6, .int v6), (0, .ref (ad 0)), (1, .int u1), (2, .int u2), (4, .int u4)]) E.1 E.2.1 dX9_reachedBy_80 hl (k := 6) rfl (by rw [e9]; rfl) (by decide) rfl (fun ls hl => ?_)
          refine lv_goto (tgt := 21) E.1 E.2.1 dX9_reachedBy_83 (by decide) ?_
          exact ih _ _ _ _ _ hf h (lv_sub hl [3, 4, 5, 1, 6, 0] rfl)
        · refine lv_iload E.1 E.2.1 dX9_reachedBy_72 (lv_at hl 0 rfl) ?_
          refine lv_goto (tgt := 78) E.1 E.2.1 dX9_reachedBy_74 (by decide) ?_
          refine lv_ior E.1 E.2.1 dX9_reachedBy_78 ?_
          refine x_nm hf (fun v12 hf => ?_)
          refine lv_istore_n (lv' := [(3, .int v12), (6, .int v6), (0, .ref (ad 0)), (1, .int u1), (2, .int u2), (4, .int u4), (5, .int m5)]) E.1 E.2.1 dX9_reachedBy_79 rfl hl (by decide) rfl (fun ls hl => ?_)
          refine x_nv hf (fun v13 e9 hf => ?_)
          refine lv_iinc (v := v13) (lv' := [(5, .int v13), (3, .int v12), (6, .int v6), (0, .ref (ad 0)), (1, .int u1), (2, .int u2), (4, .int u4)]) E.1 E.2.1 dX9_reachedBy_80 hl (k := 6) rfl (by rw [e9]; rfl) (by decide) rfl (fun ls hl => ?_)
          refine lv_goto (tgt := 21) E.1 E.2.1 dX9_reachedBy_83 (by decide) ?_
          exact ih _ _ _ _ _ hf h (lv_sub hl [3, 4, 5, 1, 6, 0] rfl)
set_option maxHeartbeats 4000000 in
set_option maxRecDepth 100000 in
theorem w_X9_reachedBy_L7 {p : Program} {l : Launch} {e : Env} {s : State} {m : MethodId} {args : Array Value} {below : List Frame} {meth : Method} {c : Code} {D : va_G} {cy : Nat → ClassId} {s00 : State} {ad : Nat → Nat} {A : Nat → Prop}  {r9 : Int32} {u1 : Int32} {u2 : Int32} {S : XS} {K : Int32 → Int32 → Option (Int32)} (E : XE p s m args meth c cX9_reachedBy 7 RX9 (some .int) D cy s00) (hk : ∀ (m3 m4 : Int32) (H : Heap) (locs : List Loc) (ls : Array Slot), K m3 m4 = some r9 → XH D cy s00 shMod ad S A s H locs → lv_has ls 7 [(0, .ref (ad 0)), (1, .int u1), (2, .int u2), (3, .int m3), (4, .int m4)] → W p l e (xrm 1) s m args below meth c H locs 0 0 (MQ below (xqi D cy shMod ad r9 S A) args s 0 0 A) (F0 m 92 ls [])) :
    ∀ (n : Nat) (m3 m4 : Int32) (H : Heap) (locs : List Loc) (ls : Array Slot), f_X9_reachedBy_L7 K S u1 u2 n m3 m4 = some r9 → XH D cy s00 shMod ad S A s H locs → lv_has ls 7 [(0, .ref (ad 0)), (1, .int u1), (2, .int u2), (3, .int m3), (4, .int m4)] → W p l e (xrm 1) s m args below meth c H locs 0 0 (MQ below (xqi D cy shMod ad r9 S A) args s 0 0 A) (F0 m 7 ls []) := by
  intro n
  induction n with
  | zero => intro m3 m4 H locs ls hf; cases hf
  | succ n ih =>
    intro m3 m4 H locs ls hf h hl
    rw [f_X9_reachedBy_L7] at hf
    refine lv_iload E.1 E.2.1 dX9_reachedBy_7 (lv_at hl 4 rfl) ?_
    refine lv_aload_n E.1 E.2.1 dX9_reachedBy_9 rfl (lv_at hl 0 rfl) ?_
    refine x_getr E h 0 0 1 rfl rfl rfl (by decide) xinX9 kw1610 dX9_reachedBy_10 ?_
    refine lv_iconst (v := 0) E.1 E.2.1 dX9_reachedBy_13 (by decide) ?_
    refine x_iald E h 1 hf rfl dX9_reachedBy_14 (fun v2 hf => ?_)
    refine x_br hf (lv_icmp_ge (tgt := 92) E.1 E.2.1 dX9_reachedBy_15 (by decide)) (fun hf => ?_) (fun hf => ?_)
    · exact hk _ _ _ _ _ hf h (lv_sub hl [0, 1, 2, 3, 4] rfl)
    · refine lv_iconst (v := 0) E.1 E.2.1 dX9_reachedBy_18 (by decide) ?_
      refine lv_istore (lv' := [(5, .int 0), (0, .ref (ad 0)), (1, .int u1), (2, .int u2), (3, .int m3), (4, .int m4)]) E.1 E.2.1 dX9_reachedBy_19 hl (by decide) rfl (fun ls hl => ?_)
      refine w_X9_reachedBy_L21 E ?_ _ _ _ _ _ _ hf h (lv_sub hl [1, 2, 3, 4, 5, 0] rfl)
      intro v14 v15 H locs ls hf h hl
      refine x_nv hf (fun v16 e9 hf => ?_)
      refine lv_iinc (v := v16) (lv' := [(4, .int v16), (0, .ref (ad 0)), (1, .int u1), (2, .int u2), (3, .int v14), (5, .int v15)]) E.1 E.2.1 dX9_reachedBy_86 hl (k := 4) rfl (by rw [e9]; rfl) (by decide) rfl (fun ls hl => ?_)
      refine lv_goto (tgt := 7) E.1 E.2.1 dX9_reachedBy_89 (by decide) ?_
      exact ih _ _ _ _ _ hf h (lv_sub hl [1, 2, 3, 4, 0] rfl)
set_option maxHeartbeats 4000000 in
set_option maxRecDepth 100000 in
theorem c_X9_reachedBy (l : Launch) (D : va_G) (cy : Nat → ClassId) (s00 : State) (ad : Nat → Nat) (S : XS) (p0 p1 : Int32) (r9 : Int32) (hf : f_X9_reachedBy S p0 p1 = some r9) : XI l yX9_reachedBy cX9_reachedBy 7 (some .int) 1 D cy s00 shMod ad S [.ref (ad 0), .int p0, .int p1] r9 S := by
  refine XI.of (by decide) [(0, .ref (ad 0)), (1, .int p0), (2, .int p1)] rfl (Nat.le_of_ble_eq_true rfl) (fun p e s m args below meth c A ls E h hl => ?_)
  unfold f_X9_reachedBy at hf
  refine lv_iconst (v := 1) E.1 E.2.1 dX9_reachedBy_0 (by decide) ?_
  refine lv_iload_n E.1 E.2.1 dX9_reachedBy_1 rfl (lv_at hl 2 rfl) ?_
  refine lv_ishl E.1 E.2.1 dX9_reachedBy_2 ?_
  refine x_nm hf (fun v1 hf => ?_)
  refine lv_istore_n (lv' := [(3, .int v1), (0, .ref (ad 0)), (1, .int p0), (2, .int p1)]) E.1 E.2.1 dX9_reachedBy_3 rfl hl (by decide) rfl (fun ls hl => ?_)
  refine lv_iconst (v := 0) E.1 E.2.1 dX9_reachedBy_4 (by decide) ?_
  refine lv_istore (lv' := [(4, .int 0), (3, .int v1), (0, .ref (ad 0)), (1, .int p0), (2, .int p1)]) E.1 E.2.1 dX9_reachedBy_5 hl (by decide) rfl (fun ls hl => ?_)
  refine w_X9_reachedBy_L7 E ?_ _ _ _ _ _ _ hf h (lv_sub hl [2, 3, 4, 1, 0] rfl)
  intro v17 v18 H locs ls hf h hl
  refine lv_iload_n E.1 E.2.1 dX9_reachedBy_92 rfl (lv_at hl 3 rfl) ?_
  exact x_irp E h hf dX9_reachedBy_93
set_option maxHeartbeats 4000000 in
set_option maxRecDepth 100000 in
theorem w_X9_type_L3 {p : Program} {l : Launch} {e : Env} {s : State} {m : MethodId} {args : Array Value} {below : List Frame} {meth : Method} {c : Code} {D : va_G} {cy : Nat → ClassId} {s00 : State} {ad : Nat → Nat} {A : Nat → Prop}  {S9 : XS} {u1 : Int32} {K : Int32 → XS → Option (XS)} (E : XE p s m args meth c cX9_type 3 RX9 none D cy s00) (hk : ∀ (m2 : Int32) (S1 : XS) (H : Heap) (locs : List Loc) (ls : Array Slot), K m2 S1 = some S9 → XH D cy s00 shMod ad S1 A s H locs → lv_has ls 3 [(0, .ref (ad 0)), (1, .int u1), (2, .int m2)] → W p l e (xrm 0) s m args below meth c H locs 0 0 (MQ below (xqv D cy shMod ad S9 A) args s 0 0 A) (F0 m 39 ls [])) :
    ∀ (n : Nat) (m2 : Int32) (S : XS) (H : Heap) (locs : List Loc) (ls : Array Slot), f_X9_type_L3 K u1 n m2 S = some S9 → XH D cy s00 shMod ad S A s H locs → lv_has ls 3 [(0, .ref (ad 0)), (1, .int u1), (2, .int m2)] → W p l e (xrm 0) s m args below meth c H locs 0 0 (MQ below (xqv D cy shMod ad S9 A) args s 0 0 A) (F0 m 3 ls []) := by
  intro n
  induction n with
  | zero => intro m2 S H locs ls hf; cases hf
  | succ n ih =>
    intro m2 S H locs ls hf h hl
    rw [f_X9_type_L3] at hf
    refine lv_iload_n E.1 E.2.1 dX9_type_3 rfl (lv_at hl 2 rfl) ?_
    refine x_br hf (lv_if_lt (tgt := 39) E.1 E.2.1 dX9_type_4 (by decide)) (fun hf => ?_) (fun hf => ?_)
    · exact hk _ _ _ _ _ hf h (lv_sub hl [0, 1, 2] rfl)
    · refine lv_aload_n E.1 E.2.1 dX9_type_7 rfl (lv_at hl 0 rfl) ?_
      refine x_getr E h 0 7 6 rfl rfl rfl (by decide) xinX9 kw1617 dX9_type_8 ?_
      refine lv_aload_n E.1 E.2.1 dX9_type_11 rfl (lv_at hl 0 rfl) ?_
      refine x_get E h 0 10 rfl rfl rfl (by decide) xinX9 kw1620 dX9_type_12 ?_
      refine lv_iload_n E.1 E.2.1 dX9_type_15 rfl (lv_at hl 1 rfl) ?_
      refine lv_iload_n E.1 E.2.1 dX9_type_16 rfl (lv_at hl 2 rfl) ?_
      refine lv_ishr E.1 E.2.1 dX9_type_17 ?_
      refine lv_sipush (v := 255) E.1 E.2.1 dX9_type_18 (by decide) ?_
      refine lv_iand E.1 E.2.1 dX9_type_21 ?_
      refine x_iast E h 6 hf rfl dX9_type_22 (fun S1 H locs hf h => ?_)
      refine lv_aload_n E.1 E.2.1 dX9_type_23 rfl (lv_at hl 0 rfl) ?_
      refine lv_dup E.1 E.2.1 dX9_type_24 rfl ?_
      refine x_get E h 0 10 rfl rfl rfl (by decide) xinX9 kw1620 dX9_type_25 ?_
      refine lv_iconst (v := 1) E.1 E.2.1 dX9_type_28 (by decide) ?_
      refine lv_iadd E.1 E.2.1 dX9_type_29 ?_
      refine x_put (ty := .int) E h 0 10 hf rfl rfl rfl (by decide) xinX9 tyX9_ok nmX9 kw1620 rfl (by decide +kernel) rfl rfl dX9_type_30 (fun S3 H locs hf h => ?_)
      refine x_nv hf (fun v4 e9 hf => ?_)
      refine lv_iinc (v := v4) (lv' := [(2, .int v4), (0, .ref (ad 0)), (1, .int u1)]) E.1 E.2.1 dX9_type_33 hl (k := 2) rfl (by rw [e9]; rfl) (by decide) rfl (fun ls hl => ?_)
      refine lv_goto (tgt := 3) E.1 E.2.1 dX9_type_36 (by decide) ?_
      exact ih _ _ _ _ _ hf h (lv_sub hl [1, 2, 0] rfl)
set_option maxHeartbeats 4000000 in
set_option maxRecDepth 100000 in
theorem c_X9_type (l : Launch) (D : va_G) (cy : Nat → ClassId) (s00 : State) (ad : Nat → Nat) (S : XS) (p0 : Int32) (S9 : XS) (hf : f_X9_type S p0 = some S9) : XV l yX9_type cX9_type 3 none 0 D cy s00 shMod ad S [.ref (ad 0), .int p0] S9 := by
  refine XV.of (by decide) [(0, .ref (ad 0)), (1, .int p0)] rfl (Nat.le_of_ble_eq_true rfl) (fun p e s m args below meth c A ls E h hl => ?_)
  unfold f_X9_type at hf
  refine lv_bipush (v := 24) E.1 E.2.1 dX9_type_0 (by decide) ?_
  refine lv_istore_n (lv' := [(2, .int 24), (0, .ref (ad 0)), (1, .int p0)]) E.1 E.2.1 dX9_type_2 rfl hl (by decide) rfl (fun ls hl => ?_)
  refine w_X9_type_L3 E ?_ _ _ _ _ _ _ hf h (lv_sub hl [1, 2, 0] rfl)
  intro v5 S6 H locs ls hf h hl
  exact x_vret E h hf dX9_type_39
set_option maxHeartbeats 4000000 in
set_option maxRecDepth 100000 in
theorem c_X9_append (l : Launch) (D : va_G) (cy : Nat → ClassId) (s00 : State) (ad : Nat → Nat) (S : XS) (p0 p1 p2 p3 p4 : Int32) (r9 : Int32) (S9 : XS) (hf : f_X9_append S p0 p1 p2 p3 p4 = some (r9, S9)) : XI l yX9_append cX9_append 6 (some .int) 1 D cy s00 shMod ad S [.ref (ad 0), .int p0, .int p1, .int p2, .int p3, .int p4] r9 S9 := by
  refine XI.of (by decide) [(0, .ref (ad 0)), (1, .int p0), (2, .int p1), (3, .int p2), (4, .int p3), (5, .int p4)] rfl (Nat.le_of_ble_eq_true rfl) (fun p e s m args below meth c A ls E h hl => ?_)
  unfold f_X9_append at hf
  refine lv_aload_n E.1 E.2.1 dX9_append_0 rfl (lv_at hl 0 rfl) ?_
  refine lv_iconst (v := 0) E.1 E.2.1 dX9_append_1 (by decide) ?_
  refine x_put (ty := .int) E h 0 16 hf rfl rfl rfl (by decide) xinX9 tyX9_ok nmX9 kw1626 rfl (by decide +kernel) rfl rfl dX9_append_2 (fun S1 H locs hf h => ?_)
  refine lv_aload_n E.1 E.2.1 dX9_append_5 rfl (lv_at hl 0 rfl) ?_
  refine x_get E h 0 10 rfl rfl rfl (by decide) xinX9 kw1620 dX9_append_6 ?_
  refine lv_bipush (v := 20) E.1 E.2.1 dX9_append_9 (by decide) ?_
  refine lv_iadd E.1 E.2.1 dX9_append_11 ?_
  refine lv_sipush (v := 600) E.1 E.2.1 dX9_append_12 (by decide) ?_
  refine x_br hf (lv_icmp_le (tgt := 20) E.1 E.2.1 dX9_append_15 (by decide)) (fun hf => ?_) (fun hf => ?_)
  · refine lv_aload_n E.1 E.2.1 dX9_append_20 rfl (lv_at hl 0 rfl) ?_
    refine lv_iload_n E.1 E.2.1 dX9_append_21 rfl (lv_at hl 1 rfl) ?_
    refine x_callv E h hl 0 hf (fun r0 hr => c_X9_type l D cy s00 _ S1 p0 r0 hr) m_X9_type rfl rfl kw1689 rfl rfl (Nat.le_of_ble_eq_true rfl) ⟨by decide, by decide⟩ ⟨Nat.zero_le _, Nat.zero_le _⟩ dX9_append_22 (fun S2 H locs hf h => ?_)
    refine lv_aload_n E.1 E.2.1 dX9_append_25 rfl (lv_at hl 0 rfl) ?_
    refine lv_iload_n E.1 E.2.1 dX9_append_26 rfl (lv_at hl 2 rfl) ?_
    refine x_callv E h hl 0 hf (fun r0 hr => c_X9_type l D cy s00 _ S2 p1 r0 hr) m_X9_type rfl rfl kw1689 rfl rfl (Nat.le_of_ble_eq_true rfl) ⟨by decide, by decide⟩ ⟨Nat.zero_le _, Nat.zero_le _⟩ dX9_append_27 (fun S3 H locs hf h => ?_)
    refine lv_aload_n E.1 E.2.1 dX9_append_30 rfl (lv_at hl 0 rfl) ?_
    refine lv_iload_n E.1 E.2.1 dX9_append_31 rfl (lv_at hl 3 rfl) ?_
    refine x_callv E h hl 0 hf (fun r0 hr => c_X9_type l D cy s00 _ S3 p2 r0 hr) m_X9_type rfl rfl kw1689 rfl rfl (Nat.le_of_ble_eq_true rfl) ⟨by decide, by decide⟩ ⟨Nat.zero_le _, Nat.zero_le _⟩ dX9_append_32 (fun S4 H locs hf h => ?_)
    refine lv_aload_n E.1 E.2.1 dX9_append_35 rfl (lv_at hl 0 rfl) ?_
    refine lv_iload E.1 E.2.1 dX9_append_36 (lv_at hl 4 rfl) ?_
    refine x_callv E h hl 0 hf (fun r0 hr => c_X9_type l D cy s00 _ S4 p3 r0 hr) m_X9_type rfl rfl kw1689 rfl rfl (Nat.le_of_ble_eq_true rfl) ⟨by decide, by decide⟩ ⟨Nat.zero_le _, Nat.zero_le _⟩ dX9_append_38 (fun S5 H locs hf h => ?_)
    refine lv_aload_n E.1 E.2.1 dX9_append_41 rfl (lv_at hl 0 rfl) ?_
    refine lv_iload E.1 E.2.1 dX9_append_42 (lv_at hl 5 rfl) ?_
    refine x_callv E h hl 0 hf (fun r0 hr => c_X9_type l D cy s00 _ S5 p4 r0 hr) m_X9_type rfl rfl kw1689 rfl rfl (Nat.le_of_ble_eq_true rfl) ⟨by decide, by decide⟩ ⟨Nat.zero_le _, Nat.zero_le _⟩ dX9_append_44 (fun S6 H locs hf h => ?_)
    refine lv_aload_n E.1 E.2.1 dX9_append_47 rfl (lv_at hl 0 rfl) ?_
    refine x_get E h 0 10 rfl rfl rfl (by decide) xinX9 kw1620 dX9_append_48 ?_
    exact x_iret E h hf dX9_append_51
  · refine lv_iconst (v := (-1)) E.1 E.2.1 dX9_append_18 (by decide) ?_
    exact x_iret E h hf dX9_append_19
set_option maxHeartbeats 4000000 in
set_option maxRecDepth 100000 in
theorem c_X9_truncateInput (l : Launch) (D : va_G) (cy : Nat → ClassId) (s00 : State) (ad : Nat → Nat) (S : XS) (p0 : Int32) (r9 : Int32) (S9 : XS) (hf : f_X9_truncateInput S p0 = some (r9, S9)) : XI l yX9_truncateInput cX9_truncateInput 2 (some .int) 1 D cy s00 shMod ad S [.ref (ad 0), .int p0] r9 S9 := by
  refine XI.of (by decide) [(0, .ref (ad 0)), (1, .int p0)] rfl (Nat.le_of_ble_eq_true rfl) (fun p e s m args below meth c A ls E h hl => ?_)
  unfold f_X9_truncateInput at hf
  refine lv_aload_n E.1 E.2.1 dX9_truncateInput_0 rfl (lv_at hl 0 rfl) ?_
  refine lv_iload_n E.1 E.2.1 dX9_truncateInput_1 rfl (lv_at hl 1 rfl) ?_
  refine lv_iconst (v := 0) E.1 E.2.1 dX9_truncateInput_2 (by decide) ?_
  refine lv_aload_n E.1 E.2.1 dX9_truncateInput_3 rfl (lv_at hl 0 rfl) ?_
  refine x_get E h 0 10 rfl rfl rfl (by decide) xinX9 kw1620 dX9_truncateInput_4 ?_
  refine x_callsp E h hl hf (fun r0 hr => c_X9_in l D cy s00 _ _ p0 0 (S 0 10) r0 hr) m_X9_in kw1378 rfl rfl (Nat.le_of_ble_eq_true rfl) ⟨by decide, by decide⟩ ⟨Nat.zero_le _, Nat.zero_le _⟩ dX9_truncateInput_7 (fun v1 H locs hf h => ?_)
  refine x_brn hf (lv_if_ne (tgt := 17) E.1 E.2.1 dX9_truncateInput_10 (by decide)) (fun hf => ?_) (fun hf => ?_)
  · refine lv_iconst (v := 0) E.1 E.2.1 dX9_truncateInput_17 (by decide) ?_
    refine x_calli E h hl 0 hf (fun r0 Sq0 hr => c_X9_throwsOne l D cy s00 _ S 0 r0 Sq0 hr) m_X9_throwsOne rfl rfl kw1697 rfl rfl (Nat.le_of_ble_eq_true rfl) ⟨by decide, by decide⟩ ⟨Nat.zero_le _, Nat.zero_le _⟩ dX9_truncateInput_18 (fun v2 S3 H locs hf h => ?_)
    refine x_br hf (lv_if_eq (tgt := 26) E.1 E.2.1 dX9_truncateInput_21 (by decide)) (fun hf => ?_) (fun hf => ?_)
    · refine lv_aload_n E.1 E.2.1 dX9_truncateInput_26 rfl (lv_at hl 0 rfl) ?_
      refine lv_iload_n E.1 E.2.1 dX9_truncateInput_27 rfl (lv_at hl 1 rfl) ?_
      refine x_put (ty := .int) E h 0 10 hf rfl rfl rfl (by decide) xinX9 tyX9_ok nmX9 kw1620 rfl (by decide +kernel) rfl rfl dX9_truncateInput_28 (fun S4 H locs hf h => ?_)
      refine lv_iload_n E.1 E.2.1 dX9_truncateInput_31 rfl (lv_at hl 1 rfl) ?_
      exact x_iret E h hf dX9_truncateInput_32
    · refine lv_iconst (v := 0) E.1 E.2.1 dX9_truncateInput_24 (by decide) ?_
      exact x_iret E h hf dX9_truncateInput_25
  · refine lv_iconst (v := 1) E.1 E.2.1 dX9_truncateInput_13 (by decide) ?_
    refine lv_goto (tgt := 18) E.1 E.2.1 dX9_truncateInput_14 (by decide) ?_
    refine x_calli E h hl 0 hf (fun r0 Sq0 hr => c_X9_throwsOne l D cy s00 _ S 1 r0 Sq0 hr) m_X9_throwsOne rfl rfl kw1697 rfl rfl (Nat.le_of_ble_eq_true rfl) ⟨by decide, by decide⟩ ⟨Nat.zero_le _, Nat.zero_le _⟩ dX9_truncateInput_18 (fun v5 S6 H locs hf h => ?_)
    refine x_br hf (lv_if_eq (tgt := 26) E.1 E.2.1 dX9_truncateInput_21 (by decide)) (fun hf => ?_) (fun hf => ?_)
    · refine lv_aload_n E.1 E.2.1 dX9_truncateInput_26 rfl (lv_at hl 0 rfl) ?_
      refine lv_iload_n E.1 E.2.1 dX9_truncateInput_27 rfl (lv_at hl 1 rfl) ?_
      refine x_put (ty := .int) E h 0 10 hf rfl rfl rfl (by decide) xinX9 tyX9_ok nmX9 kw1620 rfl (by decide +kernel) rfl rfl dX9_truncateInput_28 (fun S7 H locs hf h => ?_)
      refine lv_iload_n E.1 E.2.1 dX9_truncateInput_31 rfl (lv_at hl 1 rfl) ?_
      exact x_iret E h hf dX9_truncateInput_32
    · refine lv_iconst (v := 0) E.1 E.2.1 dX9_truncateInput_24 (by decide) ?_
      exact x_iret E h hf dX9_truncateInput_25
set_option maxHeartbeats 4000000 in
set_option maxRecDepth 100000 in
theorem w_X9_begins_L2 {p : Program} {l : Launch} {e : Env} {s : State} {m : MethodId} {args : Array Value} {below : List Frame} {meth : Method} {c : Code} {D : va_G} {cy : Nat → ClassId} {s00 : State} {ad : Nat → Nat} {A : Nat → Prop}  {S9 : XS}  {K : Int32 → XS → Option (XS)} (E : XE p s m args meth c cX9_begins 2 RX9 none D cy s00) (hk : ∀ (m1 : Int32) (S1 : XS) (H : Heap) (locs : List Loc) (ls : Array Slot), K m1 S1 = some S9 → XH D cy s00 shMod ad S1 A s H locs → lv_has ls 2 [(0, .ref (ad 0)), (1, .int m1)] → W p l e (xrm 0) s m args below meth c H locs 0 0 (MQ below (xqv D cy shMod ad S9 A) args s 0 0 A) (F0 m 27 ls [])) :
    ∀ (n : Nat) (m1 : Int32) (S : XS) (H : Heap) (locs : List Loc) (ls : Array Slot), f_X9_begins_L2 K n m1 S = some S9 → XH D cy s00 shMod ad S A s H locs → lv_has ls 2 [(0, .ref (ad 0)), (1, .int m1)] → W p l e (xrm 0) s m args below meth c H locs 0 0 (MQ below (xqv D cy shMod ad S9 A) args s 0 0 A) (F0 m 2 ls []) := by
  intro n
  induction n with
  | zero => intro m1 S H locs ls hf; cases hf
  | succ n ih =>
    intro m1 S H locs ls hf h hl
    rw [f_X9_begins_L2] at hf
    refine lv_iload_n E.1 E.2.1 dX9_begins_2 rfl (lv_at hl 1 rfl) ?_
    refine lv_sipush (v := 186) E.1 E.2.1 dX9_begins_3 (by decide) ?_
    refine x_br hf (lv_icmp_ge (tgt := 27) E.1 E.2.1 dX9_begins_6 (by decide)) (fun hf => ?_) (fun hf => ?_)
    · exact hk _ _ _ _ _ hf h (lv_sub hl [0, 1] rfl)
    · refine lv_aload_n E.1 E.2.1 dX9_begins_9 rfl (lv_at hl 0 rfl) ?_
      refine x_getr E h 0 1 2 rfl rfl rfl (by decide) xinX9 kw1611 dX9_begins_10 ?_
      refine lv_iload_n E.1 E.2.1 dX9_begins_13 rfl (lv_at hl 1 rfl) ?_
      refine lv_aload_n E.1 E.2.1 dX9_begins_14 rfl (lv_at hl 0 rfl) ?_
      refine x_getr E h 0 0 1 rfl rfl rfl (by decide) xinX9 kw1610 dX9_begins_15 ?_
      refine lv_iload_n E.1 E.2.1 dX9_begins_18 rfl (lv_at hl 1 rfl) ?_
      refine x_iald E h 1 hf rfl dX9_begins_19 (fun v1 hf => ?_)
      refine x_iast E h 2 hf rfl dX9_begins_20 (fun S2 H locs hf h => ?_)
      refine x_nv hf (fun v4 e9 hf => ?_)
      refine lv_iinc (v := v4) (lv' := [(1, .int v4), (0, .ref (ad 0))]) E.1 E.2.1 dX9_begins_21 hl (k := 1) rfl (by rw [e9]; rfl) (by decide) rfl (fun ls hl => ?_)
      refine lv_goto (tgt := 2) E.1 E.2.1 dX9_begins_24 (by decide) ?_
      exact ih _ _ _ _ _ hf h (lv_sub hl [1, 0] rfl)
set_option maxHeartbeats 4000000 in
set_option maxRecDepth 100000 in
theorem c_X9_begins (l : Launch) (D : va_G) (cy : Nat → ClassId) (s00 : State) (ad : Nat → Nat) (S : XS) (S9 : XS) (hf : f_X9_begins S = some S9) : XV l yX9_begins cX9_begins 2 none 0 D cy s00 shMod ad S [.ref (ad 0)] S9 := by
  refine XV.of (by decide) [(0, .ref (ad 0))] rfl (Nat.le_of_ble_eq_true rfl) (fun p e s m args below meth c A ls E h hl => ?_)
  unfold f_X9_begins at hf
  refine lv_iconst (v := 0) E.1 E.2.1 dX9_begins_0 (by decide) ?_
  refine lv_istore_n (lv' := [(1, .int 0), (0, .ref (ad 0))]) E.1 E.2.1 dX9_begins_1 rfl hl (by decide) rfl (fun ls hl => ?_)
  refine w_X9_begins_L2 E ?_ _ _ _ _ _ _ hf h (lv_sub hl [1, 0] rfl)
  intro v5 S6 H locs ls hf h hl
  exact x_vret E h hf dX9_begins_27
set_option maxHeartbeats 4000000 in
set_option maxRecDepth 100000 in
theorem w_X9_remember_L54 {p : Program} {l : Launch} {e : Env} {s : State} {m : MethodId} {args : Array Value} {below : List Frame} {meth : Method} {c : Code} {D : va_G} {cy : Nat → ClassId} {s00 : State} {ad : Nat → Nat} {A : Nat → Prop}  {r9 : Int32} {S9 : XS} {u1 : Int32} {K : Int32 → XS → Option (Int32 × XS)} (E : XE p s m args meth c cX9_remember 3 RX9 (some .int) D cy s00) (hk : ∀ (m2 : Int32) (S1 : XS) (H : Heap) (locs : List Loc) (ls : Array Slot), K m2 S1 = some (r9, S9) → XH D cy s00 shMod ad S1 A s H locs → lv_has ls 3 [(0, .ref (ad 0)), (1, .int u1), (2, .int m2)] → W p l e (xrm 0) s m args below meth c H locs 0 0 (MQ below (xqi D cy shMod ad r9 S9 A) args s 0 0 A) (F0 m 88 ls [])) :
    ∀ (n : Nat) (m2 : Int32) (S : XS) (H : Heap) (locs : List Loc) (ls : Array Slot), f_X9_remember_L54 K u1 n m2 S = some (r9, S9) → XH D cy s00 shMod ad S A s H locs → lv_has ls 3 [(0, .ref (ad 0)), (1, .int u1), (2, .int m2)] → W p l e (xrm 0) s m args below meth c H locs 0 0 (MQ below (xqi D cy shMod ad r9 S9 A) args s 0 0 A) (F0 m 54 ls []) := by
  intro n
  induction n with
  | zero => intro m2 S H locs ls hf; cases hf
  | succ n ih =>
    intro m2 S H locs ls hf h hl
    rw [f_X9_remember_L54] at hf
    refine lv_iload_n E.1 E.2.1 dX9_remember_54 rfl (lv_at hl 2 rfl) ?_
    refine lv_sipush (v := 186) E.1 E.2.1 dX9_remember_55 (by decide) ?_
    refine x_br hf (lv_icmp_ge (tgt := 88) E.1 E.2.1 dX9_remember_58 (by decide)) (fun hf => ?_) (fun hf => ?_)
    · exact hk _ _ _ _ _ hf h (lv_sub hl [0, 1, 2] rfl)
    · refine lv_aload_n E.1 E.2.1 dX9_remember_61 rfl (lv_at hl 0 rfl) ?_
      refine x_getr E h 0 3 4 rfl rfl rfl (by decide) xinX9 kw1613 dX9_remember_62 ?_
      refine lv_sipush (v := 186) E.1 E.2.1 dX9_remember_65 (by decide) ?_
      refine lv_aload_n E.1 E.2.1 dX9_remember_68 rfl (lv_at hl 0 rfl) ?_
      refine x_get E h 0 5 rfl rfl rfl (by decide) xinX9 kw1615 dX9_remember_69 ?_
      refine lv_imul E.1 E.2.1 dX9_remember_72 ?_
      refine lv_iload_n E.1 E.2.1 dX9_remember_73 rfl (lv_at hl 2 rfl) ?_
      refine lv_iadd E.1 E.2.1 dX9_remember_74 ?_
      refine lv_aload_n E.1 E.2.1 dX9_remember_75 rfl (lv_at hl 0 rfl) ?_
      refine x_getr E h 0 1 2 rfl rfl rfl (by decide) xinX9 kw1611 dX9_remember_76 ?_
      refine lv_iload_n E.1 E.2.1 dX9_remember_79 rfl (lv_at hl 2 rfl) ?_
      refine x_iald E h 2 hf rfl dX9_remember_80 (fun v1 hf => ?_)
      refine x_iast E h 4 hf rfl dX9_remember_81 (fun S2 H locs hf h => ?_)
      refine x_nv hf (fun v4 e9 hf => ?_)
      refine lv_iinc (v := v4) (lv' := [(2, .int v4), (0, .ref (ad 0)), (1, .int u1)]) E.1 E.2.1 dX9_remember_82 hl (k := 2) rfl (by rw [e9]; rfl) (by decide) rfl (fun ls hl => ?_)
      refine lv_goto (tgt := 54) E.1 E.2.1 dX9_remember_85 (by decide) ?_
      exact ih _ _ _ _ _ hf h (lv_sub hl [1, 2, 0] rfl)
set_option maxHeartbeats 4000000 in
set_option maxRecDepth 100000 in
theorem w_X9_remember_L13 {p : Program} {l : Launch} {e : Env} {s : State} {m : MethodId} {args : Array Value} {below : List Frame} {meth : Method} {c : Code} {D : va_G} {cy : Nat → ClassId} {s00 : State} {ad : Nat → Nat} {A : Nat → Prop}  {r9 : Int32} {S9 : XS} {u1 : Int32} {K : Int32 → XS → Option (Int32 × XS)} (E : XE p s m args meth c cX9_remember 3 RX9 (some .int) D cy s00) (hk : ∀ (m2 : Int32) (S1 : XS) (H : Heap) (locs : List Loc) (ls : Array Slot), K m2 S1 = some (r9, S9) → XH D cy s00 shMod ad S1 A s H locs → lv_has ls 3 [(0, .ref (ad 0)), (1, .int u1), (2, .int m2)] → W p l e (xrm 0) s m args below meth c H locs 0 0 (MQ below (xqi D cy shMod ad r9 S9 A) args s 0 0 A) (F0 m 42 ls [])) :
    ∀ (n : Nat) (m2 : Int32) (S : XS) (H : Heap) (locs : List Loc) (ls : Array Slot), f_X9_remember_L13 K u1 n m2 S = some (r9, S9) → XH D cy s00 shMod ad S A s H locs → lv_has ls 3 [(0, .ref (ad 0)), (1, .int u1), (2, .int m2)] → W p l e (xrm 0) s m args below meth c H locs 0 0 (MQ below (xqi D cy shMod ad r9 S9 A) args s 0 0 A) (F0 m 13 ls []) := by
  intro n
  induction n with
  | zero => intro m2 S H locs ls hf; cases hf
  | succ n ih =>
    intro m2 S H locs ls hf h hl
    rw [f_X9_remember_L13] at hf
    refine lv_iload_n E.1 E.2.1 dX9_remember_13 rfl (lv_at hl 2 rfl) ?_
    refine lv_sipush (v := 1488) E.1 E.2.1 dX9_remember_14 (by decide) ?_
    refine x_br hf (lv_icmp_ge (tgt := 42) E.1 E.2.1 dX9_remember_17 (by decide)) (fun hf => ?_) (fun hf => ?_)
    · exact hk _ _ _ _ _ hf h (lv_sub hl [0, 1, 2] rfl)
    · refine lv_aload_n E.1 E.2.1 dX9_remember_20 rfl (lv_at hl 0 rfl) ?_
      refine x_getr E h 0 3 4 rfl rfl rfl (by decide) xinX9 kw1613 dX9_remember_21 ?_
      refine lv_iload_n E.1 E.2.1 dX9_remember_24 rfl (lv_at hl 2 rfl) ?_
      refine lv_sipush (v := 186) E.1 E.2.1 dX9_remember_25 (by decide) ?_
      refine lv_isub E.1 E.2.1 dX9_remember_28 ?_
      refine lv_aload_n E.1 E.2.1 dX9_remember_29 rfl (lv_at hl 0 rfl) ?_
      refine x_getr E h 0 3 4 rfl rfl rfl (by decide) xinX9 kw1613 dX9_remember_30 ?_
      refine lv_iload_n E.1 E.2.1 dX9_remember_33 rfl (lv_at hl 2 rfl) ?_
      refine x_iald E h 4 hf rfl dX9_remember_34 (fun v8 hf => ?_)
      refine x_iast E h 4 hf rfl dX9_remember_35 (fun S9 H locs hf h => ?_)
      refine x_nv hf (fun v11 e9 hf => ?_)
      refine lv_iinc (v := v11) (lv' := [(2, .int v11), (0, .ref (ad 0)), (1, .int u1)]) E.1 E.2.1 dX9_remember_36 hl (k := 2) rfl (by rw [e9]; rfl) (by decide) rfl (fun ls hl => ?_)
      refine lv_goto (tgt := 13) E.1 E.2.1 dX9_remember_39 (by decide) ?_
      exact ih _ _ _ _ _ hf h (lv_sub hl [1, 2, 0] rfl)
set_option maxHeartbeats 4000000 in
set_option maxRecDepth 100000 in
theorem c_X9_remember (l : Launch) (D : va_G) (cy : Nat → ClassId) (s00 : State) (ad : Nat → Nat) (S : XS) (p0 : Int32) (r9 : Int32) (S9 : XS) (hf : f_X9_remember S p0 = some (r9, S9)) : XI l yX9_remember cX9_remember 3 (some .int) 0 D cy s00 shMod ad S [.ref (ad 0), .int p0] r9 S9 := by
  refine XI.of (by decide) [(0, .ref (ad 0)), (1, .int p0)] rfl (Nat.le_of_ble_eq_true rfl) (fun p e s m args below meth c A ls E h hl => ?_)
  unfold f_X9_remember at hf
  refine lv_aload_n E.1 E.2.1 dX9_remember_0 rfl (lv_at hl 0 rfl) ?_
  refine x_get E h 0 5 rfl rfl rfl (by decide) xinX9 kw1615 dX9_remember_1 ?_
  refine lv_bipush (v := 8) E.1 E.2.1 dX9_remember_4 (by decide) ?_
  refine x_brn hf (lv_icmp_ne (tgt := 52) E.1 E.2.1 dX9_remember_6 (by decide)) (fun hf => ?_) (fun hf => ?_)
  · refine lv_iconst (v := 0) E.1 E.2.1 dX9_remember_52 (by decide) ?_
    refine lv_istore_n (lv' := [(2, .int 0), (0, .ref (ad 0)), (1, .int p0)]) E.1 E.2.1 dX9_remember_53 rfl hl (by decide) rfl (fun ls hl => ?_)
    refine w_X9_remember_L54 E ?_ _ _ _ _ _ _ hf h (lv_sub hl [1, 2, 0] rfl)
    intro v5 S6 H locs ls hf h hl
    refine lv_aload_n E.1 E.2.1 dX9_remember_88 rfl (lv_at hl 0 rfl) ?_
    refine lv_dup E.1 E.2.1 dX9_remember_89 rfl ?_
    refine x_get E h 0 5 rfl rfl rfl (by decide) xinX9 kw1615 dX9_remember_90 ?_
    refine lv_iconst (v := 1) E.1 E.2.1 dX9_remember_93 (by decide) ?_
    refine lv_iadd E.1 E.2.1 dX9_remember_94 ?_
    refine x_put (ty := .int) E h 0 5 hf rfl rfl rfl (by decide) xinX9 tyX9_ok nmX9 kw1615 rfl (by decide +kernel) rfl rfl dX9_remember_95 (fun S7 H locs hf h => ?_)
    refine lv_iload_n E.1 E.2.1 dX9_remember_98 rfl (lv_at hl 1 rfl) ?_
    exact x_iret E h hf dX9_remember_99
  · refine lv_sipush (v := 186) E.1 E.2.1 dX9_remember_9 (by decide) ?_
    refine lv_istore_n (lv' := [(2, .int 186), (0, .ref (ad 0)), (1, .int p0)]) E.1 E.2.1 dX9_remember_12 rfl hl (by decide) rfl (fun ls hl => ?_)
    refine w_X9_remember_L13 E ?_ _ _ _ _ _ _ hf h (lv_sub hl [1, 2, 0] rfl)
    intro v12 S13 H locs ls hf h hl
    refine lv_aload_n E.1 E.2.1 dX9_remember_42 rfl (lv_at hl 0 rfl) ?_
    refine lv_dup E.1 E.2.1 dX9_remember_43 rfl ?_
    refine x_get E h 0 5 rfl rfl rfl (by decide) xinX9 kw1615 dX9_remember_44 ?_
    refine lv_iconst (v := 1) E.1 E.2.1 dX9_remember_47 (by decide) ?_
    refine lv_isub E.1 E.2.1 dX9_remember_48 ?_
    refine x_put (ty := .int) E h 0 5 hf rfl rfl rfl (by decide) xinX9 tyX9_ok nmX9 kw1615 rfl (by decide +kernel) rfl rfl dX9_remember_49 (fun S14 H locs hf h => ?_)
    refine lv_iconst (v := 0) E.1 E.2.1 dX9_remember_52 (by decide) ?_
    refine lv_istore_n (lv' := [(2, .int 0), (0, .ref (ad 0)), (1, .int p0)]) E.1 E.2.1 dX9_remember_53 rfl hl (by decide) rfl (fun ls hl => ?_)
    refine w_X9_remember_L54 E ?_ _ _ _ _ _ _ hf h (lv_sub hl [1, 2, 0] rfl)
    intro v15 S16 H locs ls hf h hl
    refine lv_aload_n E.1 E.2.1 dX9_remember_88 rfl (lv_at hl 0 rfl) ?_
    refine lv_dup E.1 E.2.1 dX9_remember_89 rfl ?_
    refine x_get E h 0 5 rfl rfl rfl (by decide) xinX9 kw1615 dX9_remember_90 ?_
    refine lv_iconst (v := 1) E.1 E.2.1 dX9_remember_93 (by decide) ?_
    refine lv_iadd E.1 E.2.1 dX9_remember_94 ?_
    refine x_put (ty := .int) E h 0 5 hf rfl rfl rfl (by decide) xinX9 tyX9_ok nmX9 kw1615 rfl (by decide +kernel) rfl rfl dX9_remember_95 (fun S17 H locs hf h => ?_)
    refine lv_iload_n E.1 E.2.1 dX9_remember_98 rfl (lv_at hl 1 rfl) ?_
    exact x_iret E h hf dX9_remember_99
set_option maxHeartbeats 4000000 in
set_option maxRecDepth 100000 in
theorem c_X9_addChimney (l : Launch) (D : va_G) (cy : Nat → ClassId) (s00 : State) (ad : Nat → Nat) (S : XS) (p0 : Int32) (r9 : Int32) (S9 : XS) (hf : f_X9_addChimney S p0 = some (r9, S9)) : XI l yX9_addChimney cX9_addChimney 2 (some .int) 1 D cy s00 shMod ad S [.ref (ad 0), .int p0] r9 S9 := by
  refine XI.of (by decide) [(0, .ref (ad 0)), (1, .int p0)] rfl (Nat.le_of_ble_eq_true rfl) (fun p e s m args below meth c A ls E h hl => ?_)
  unfold f_X9_addChimney at hf
  refine lv_aload_n E.1 E.2.1 dX9_addChimney_0 rfl (lv_at hl 0 rfl) ?_
  refine lv_iload_n E.1 E.2.1 dX9_addChimney_1 rfl (lv_at hl 1 rfl) ?_
  refine lv_iconst (v := 0) E.1 E.2.1 dX9_addChimney_2 (by decide) ?_
  refine lv_bipush (v := 9) E.1 E.2.1 dX9_addChimney_3 (by decide) ?_
  refine x_callsp E h hl hf (fun r0 hr => c_X9_in l D cy s00 _ _ p0 0 9 r0 hr) m_X9_in kw1378 rfl rfl (Nat.le_of_ble_eq_true rfl) ⟨by decide, by decide⟩ ⟨Nat.zero_le _, Nat.zero_le _⟩ dX9_addChimney_5 (fun v1 H locs hf h => ?_)
  refine x_brn hf (lv_if_ne (tgt := 15) E.1 E.2.1 dX9_addChimney_8 (by decide)) (fun hf => ?_) (fun hf => ?_)
  · refine lv_iconst (v := 0) E.1 E.2.1 dX9_addChimney_15 (by decide) ?_
    refine lv_aload_n E.1 E.2.1 dX9_addChimney_16 rfl (lv_at hl 0 rfl) ?_
    refine x_getr E h 0 0 1 rfl rfl rfl (by decide) xinX9 kw1610 dX9_addChimney_17 ?_
    refine lv_iconst (v := 0) E.1 E.2.1 dX9_addChimney_20 (by decide) ?_
    refine x_iald E h 1 hf rfl dX9_addChimney_21 (fun v2 hf => ?_)
    refine lv_bipush (v := 10) E.1 E.2.1 dX9_addChimney_22 (by decide) ?_
    refine x_brn hf (lv_icmp_ne (tgt := 31) E.1 E.2.1 dX9_addChimney_24 (by decide)) (fun hf => ?_) (fun hf => ?_)
    · refine lv_iconst (v := 0) E.1 E.2.1 dX9_addChimney_31 (by decide) ?_
      refine x_calli E h hl 0 hf (fun r0 Sq0 hr => c_X9_throwsOne_ l D cy s00 _ S 0 0 r0 Sq0 hr) m_X9_throwsOne_ rfl rfl kw1717 rfl rfl (Nat.le_of_ble_eq_true rfl) ⟨by decide, by decide⟩ ⟨Nat.zero_le _, Nat.zero_le _⟩ dX9_addChimney_32 (fun v3 S4 H locs hf h => ?_)
      refine x_br hf (lv_if_eq (tgt := 40) E.1 E.2.1 dX9_addChimney_35 (by decide)) (fun hf => ?_) (fun hf => ?_)
      · refine lv_aload_n E.1 E.2.1 dX9_addChimney_40 rfl (lv_at hl 0 rfl) ?_
        refine x_callv E h hl 0 hf (fun r0 hr => c_X9_begins l D cy s00 _ S4  r0 hr) m_X9_begins rfl rfl kw1705 rfl rfl (Nat.le_of_ble_eq_true rfl) ⟨by decide, by decide⟩ ⟨Nat.zero_le _, Nat.zero_le _⟩ dX9_addChimney_41 (fun S5 H locs hf h => ?_)
        refine lv_aload_n E.1 E.2.1 dX9_addChimney_44 rfl (lv_at hl 0 rfl) ?_
        refine lv_aload_n E.1 E.2.1 dX9_addChimney_45 rfl (lv_at hl 0 rfl) ?_
        refine lv_iload_n E.1 E.2.1 dX9_addChimney_46 rfl (lv_at hl 1 rfl) ?_
        refine x_calli E h hl 0 hf (fun r0 Sq0 hr => c_X9_builds l D cy s00 _ S5 p0 r0 Sq0 hr) m_X9_builds rfl rfl kw1393 rfl rfl (Nat.le_of_ble_eq_true rfl) ⟨by decide, by decide⟩ ⟨Nat.zero_le _, Nat.zero_le _⟩ dX9_addChimney_47 (fun v6 S7 H locs hf h => ?_)
        refine x_calli E h hl 0 hf (fun r0 Sq0 hr => c_X9_remember l D cy s00 _ S7 v6 r0 Sq0 hr) m_X9_remember rfl rfl kw1709 rfl rfl (Nat.le_of_ble_eq_true rfl) ⟨by decide, by decide⟩ ⟨Nat.zero_le _, Nat.zero_le _⟩ dX9_addChimney_50 (fun v8 S9 H locs hf h => ?_)
        exact x_iret E h hf dX9_addChimney_53
      · refine lv_iconst (v := 0) E.1 E.2.1 dX9_addChimney_38 (by decide) ?_
        exact x_iret E h hf dX9_addChimney_39
    · refine lv_iconst (v := 1) E.1 E.2.1 dX9_addChimney_27 (by decide) ?_
      refine lv_goto (tgt := 32) E.1 E.2.1 dX9_addChimney_28 (by decide) ?_
      refine x_calli E h hl 0 hf (fun r0 Sq0 hr => c_X9_throwsOne_ l D cy s00 _ S 0 1 r0 Sq0 hr) m_X9_throwsOne_ rfl rfl kw1717 rfl rfl (Nat.le_of_ble_eq_true rfl) ⟨by decide, by decide⟩ ⟨Nat.zero_le _, Nat.zero_le _⟩ dX9_addChimney_32 (fun v10 S11 H locs hf h => ?_)
      refine x_br hf (lv_if_eq (tgt := 40) E.1 E.2.1 dX9_addChimney_35 (by decide)) (fun hf => ?_) (fun hf => ?_)
      · refine lv_aload_n E.1 E.2.1 dX9_addChimney_40 rfl (lv_at hl 0 rfl) ?_
        refine x_callv E h hl 0 hf (fun r0 hr => c_X9_begins l D cy s00 _ S11  r0 hr) m_X9_begins rfl rfl kw1705 rfl rfl (Nat.le_of_ble_eq_true rfl) ⟨by decide, by decide⟩ ⟨Nat.zero_le _, Nat.zero_le _⟩ dX9_addChimney_41 (fun S12 H locs hf h => ?_)
        refine lv_aload_n E.1 E.2.1 dX9_addChimney_44 rfl (lv_at hl 0 rfl) ?_
        refine lv_aload_n E.1 E.2.1 dX9_addChimney_45 rfl (lv_at hl 0 rfl) ?_
        refine lv_iload_n E.1 E.2.1 dX9_addChimney_46 rfl (lv_at hl 1 rfl) ?_
        refine x_calli E h hl 0 hf (fun r0 Sq0 hr => c_X9_builds l D cy s00 _ S12 p0 r0 Sq0 hr) m_X9_builds rfl rfl kw1393 rfl rfl (Nat.le_of_ble_eq_true rfl) ⟨by decide, by decide⟩ ⟨Nat.zero_le _, Nat.zero_le _⟩ dX9_addChimney_47 (fun v13 S14 H locs hf h => ?_)
        refine x_calli E h hl 0 hf (fun r0 Sq0 hr => c_X9_remember l D cy s00 _ S14 v13 r0 Sq0 hr) m_X9_remember rfl rfl kw1709 rfl rfl (Nat.le_of_ble_eq_true rfl) ⟨by decide, by decide⟩ ⟨Nat.zero_le _, Nat.zero_le _⟩ dX9_addChimney_50 (fun v15 S16 H locs hf h => ?_)
        exact x_iret E h hf dX9_addChimney_53
      · refine lv_iconst (v := 0) E.1 E.2.1 dX9_addChimney_38 (by decide) ?_
        exact x_iret E h hf dX9_addChimney_39
  · refine lv_iconst (v := 1) E.1 E.2.1 dX9_addChimney_11 (by decide) ?_
    refine lv_goto (tgt := 16) E.1 E.2.1 dX9_addChimney_12 (by decide) ?_
    refine lv_aload_n E.1 E.2.1 dX9_addChimney_16 rfl (lv_at hl 0 rfl) ?_
    refine x_getr E h 0 0 1 rfl rfl rfl (by decide) xinX9 kw1610 dX9_addChimney_17 ?_
    refine lv_iconst (v := 0) E.1 E.2.1 dX9_addChimney_20 (by decide) ?_
    refine x_iald E h 1 hf rfl dX9_addChimney_21 (fun v17 hf => ?_)
    refine lv_bipush (v := 10) E.1 E.2.1 dX9_addChimney_22 (by decide) ?_
    refine x_brn hf (lv_icmp_ne (tgt := 31) E.1 E.2.1 dX9_addChimney_24 (by decide)) (fun hf => ?_) (fun hf => ?_)
    · refine lv_iconst (v := 0) E.1 E.2.1 dX9_addChimney_31 (by decide) ?_
      refine x_calli E h hl 0 hf (fun r0 Sq0 hr => c_X9_throwsOne_ l D cy s00 _ S 1 0 r0 Sq0 hr) m_X9_throwsOne_ rfl rfl kw1717 rfl rfl (Nat.le_of_ble_eq_true rfl) ⟨by decide, by decide⟩ ⟨Nat.zero_le _, Nat.zero_le _⟩ dX9_addChimney_32 (fun v18 S19 H locs hf h => ?_)
      refine x_br hf (lv_if_eq (tgt := 40) E.1 E.2.1 dX9_addChimney_35 (by decide)) (fun hf => ?_) (fun hf => ?_)
      · refine lv_aload_n E.1 E.2.1 dX9_addChimney_40 rfl (lv_at hl 0 rfl) ?_
        refine x_callv E h hl 0 hf (fun r0 hr => c_X9_begins l D cy s00 _ S19  r0 hr) m_X9_begins rfl rfl kw1705 rfl rfl (Nat.le_of_ble_eq_true rfl) ⟨by decide, by decide⟩ ⟨Nat.zero_le _, Nat.zero_le _⟩ dX9_addChimney_41 (fun S20 H locs hf h => ?_)
        refine lv_aload_n E.1 E.2.1 dX9_addChimney_44 rfl (lv_at hl 0 rfl) ?_
        refine lv_aload_n E.1 E.2.1 dX9_addChimney_45 rfl (lv_at hl 0 rfl) ?_
        refine lv_iload_n E.1 E.2.1 dX9_addChimney_46 rfl (lv_at hl 1 rfl) ?_
        refine x_calli E h hl 0 hf (fun r0 Sq0 hr => c_X9_builds l D cy s00 _ S20 p0 r0 Sq0 hr) m_X9_builds rfl rfl kw1393 rfl rfl (Nat.le_of_ble_eq_true rfl) ⟨by decide, by decide⟩ ⟨Nat.zero_le _, Nat.zero_le _⟩ dX9_addChimney_47 (fun v21 S22 H locs hf h => ?_)
        refine x_calli E h hl 0 hf (fun r0 Sq0 hr => c_X9_remember l D cy s00 _ S22 v21 r0 Sq0 hr) m_X9_remember rfl rfl kw1709 rfl rfl (Nat.le_of_ble_eq_true rfl) ⟨by decide, by decide⟩ ⟨Nat.zero_le _, Nat.zero_le _⟩ dX9_addChimney_50 (fun v23 S24 H locs hf h => ?_)
        exact x_iret E h hf dX9_addChimney_53
      · refine lv_iconst (v := 0) E.1 E.2.1 dX9_addChimney_38 (by decide) ?_
        exact x_iret E h hf dX9_addChimney_39
    · refine lv_iconst (v := 1) E.1 E.2.1 dX9_addChimney_27 (by decide) ?_
      refine lv_goto (tgt := 32) E.1 E.2.1 dX9_addChimney_28 (by decide) ?_
      refine x_calli E h hl 0 hf (fun r0 Sq0 hr => c_X9_throwsOne_ l D cy s00 _ S 1 1 r0 Sq0 hr) m_X9_throwsOne_ rfl rfl kw1717 rfl rfl (Nat.le_of_ble_eq_true rfl) ⟨by decide, by decide⟩ ⟨Nat.zero_le _, Nat.zero_le _⟩ dX9_addChimney_32 (fun v25 S26 H locs hf h => ?_)
      refine x_br hf (lv_if_eq (tgt := 40) E.1 E.2.1 dX9_addChimney_35 (by decide)) (fun hf => ?_) (fun hf => ?_)
      · refine lv_aload_n E.1 E.2.1 dX9_addChimney_40 rfl (lv_at hl 0 rfl) ?_
        refine x_callv E h hl 0 hf (fun r0 hr => c_X9_begins l D cy s00 _ S26  r0 hr) m_X9_begins rfl rfl kw1705 rfl rfl (Nat.le_of_ble_eq_true rfl) ⟨by decide, by decide⟩ ⟨Nat.zero_le _, Nat.zero_le _⟩ dX9_addChimney_41 (fun S27 H locs hf h => ?_)
        refine lv_aload_n E.1 E.2.1 dX9_addChimney_44 rfl (lv_at hl 0 rfl) ?_
        refine lv_aload_n E.1 E.2.1 dX9_addChimney_45 rfl (lv_at hl 0 rfl) ?_
        refine lv_iload_n E.1 E.2.1 dX9_addChimney_46 rfl (lv_at hl 1 rfl) ?_
        refine x_calli E h hl 0 hf (fun r0 Sq0 hr => c_X9_builds l D cy s00 _ S27 p0 r0 Sq0 hr) m_X9_builds rfl rfl kw1393 rfl rfl (Nat.le_of_ble_eq_true rfl) ⟨by decide, by decide⟩ ⟨Nat.zero_le _, Nat.zero_le _⟩ dX9_addChimney_47 (fun v28 S29 H locs hf h => ?_)
        refine x_calli E h hl 0 hf (fun r0 Sq0 hr => c_X9_remember l D cy s00 _ S29 v28 r0 Sq0 hr) m_X9_remember rfl rfl kw1709 rfl rfl (Nat.le_of_ble_eq_true rfl) ⟨by decide, by decide⟩ ⟨Nat.zero_le _, Nat.zero_le _⟩ dX9_addChimney_50 (fun v30 S31 H locs hf h => ?_)
        exact x_iret E h hf dX9_addChimney_53
      · refine lv_iconst (v := 0) E.1 E.2.1 dX9_addChimney_38 (by decide) ?_
        exact x_iret E h hf dX9_addChimney_39
set_option maxHeartbeats 4000000 in
set_option maxRecDepth 100000 in
theorem c_X9_addGutter (l : Launch) (D : va_G) (cy : Nat → ClassId) (s00 : State) (ad : Nat → Nat) (S : XS) (p0 p1 p2 : Int32) (r9 : Int32) (S9 : XS) (hf : f_X9_addGutter S p0 p1 p2 = some (r9, S9)) : XI l yX9_addGutter cX9_addGutter 4 (some .int) 2 D cy s00 shMod ad S [.ref (ad 0), .int p0, .int p1, .int p2] r9 S9 := by
  refine XI.of (by decide) [(0, .ref (ad 0)), (1, .int p0), (2, .int p1), (3, .int p2)] rfl (Nat.le_of_ble_eq_true rfl) (fun p e s m args below meth c A ls E h hl => ?_)
  unfold f_X9_addGutter at hf
  refine lv_aload_n E.1 E.2.1 dX9_addGutter_0 rfl (lv_at hl 0 rfl) ?_
  refine lv_aload_n E.1 E.2.1 dX9_addGutter_1 rfl (lv_at hl 0 rfl) ?_
  refine lv_iload_n E.1 E.2.1 dX9_addGutter_2 rfl (lv_at hl 1 rfl) ?_
  refine x_callp E h hl 0 hf (fun r0 hr => c_X9_isChimney l D cy s00 _ S p0 r0 hr) m_X9_isChimney rfl rfl kw1725 rfl rfl (Nat.le_of_ble_eq_true rfl) ⟨by decide, by decide⟩ ⟨Nat.zero_le _, Nat.zero_le _⟩ dX9_addGutter_3 (fun v1 H locs hf h => ?_)
  refine x_br hf (lv_if_eq (tgt := 17) E.1 E.2.1 dX9_addGutter_6 (by decide)) (fun hf => ?_) (fun hf => ?_)
  · refine lv_iconst (v := 1) E.1 E.2.1 dX9_addGutter_17 (by decide) ?_
    refine lv_goto (tgt := 22) E.1 E.2.1 dX9_addGutter_18 (by decide) ?_
    refine lv_iload_n E.1 E.2.1 dX9_addGutter_22 rfl (lv_at hl 1 rfl) ?_
    refine lv_iload_n E.1 E.2.1 dX9_addGutter_23 rfl (lv_at hl 2 rfl) ?_
    refine x_br hf (lv_icmp_eq (tgt := 37) E.1 E.2.1 dX9_addGutter_24 (by decide)) (fun hf => ?_) (fun hf => ?_)
    · refine lv_iconst (v := 1) E.1 E.2.1 dX9_addGutter_37 (by decide) ?_
      refine lv_goto (tgt := 42) E.1 E.2.1 dX9_addGutter_38 (by decide) ?_
      refine lv_aload_n E.1 E.2.1 dX9_addGutter_42 rfl (lv_at hl 0 rfl) ?_
      refine x_getr E h 0 0 1 rfl rfl rfl (by decide) xinX9 kw1610 dX9_addGutter_43 ?_
      refine lv_iconst (v := 1) E.1 E.2.1 dX9_addGutter_46 (by decide) ?_
      refine x_iald E h 1 hf rfl dX9_addGutter_47 (fun v2 hf => ?_)
      refine lv_bipush (v := 20) E.1 E.2.1 dX9_addGutter_48 (by decide) ?_
      refine x_brn hf (lv_icmp_ne (tgt := 57) E.1 E.2.1 dX9_addGutter_50 (by decide)) (fun hf => ?_) (fun hf => ?_)
      · refine lv_iconst (v := 0) E.1 E.2.1 dX9_addGutter_57 (by decide) ?_
        refine x_calli E h hl 0 hf (fun r0 Sq0 hr => c_X9_throwsOne__ l D cy s00 _ S 1 1 0 r0 Sq0 hr) m_X9_throwsOne__ rfl rfl kw1729 rfl rfl (Nat.le_of_ble_eq_true rfl) ⟨by decide, by decide⟩ ⟨Nat.zero_le _, Nat.zero_le _⟩ dX9_addGutter_58 (fun v3 S4 H locs hf h => ?_)
        refine x_br hf (lv_if_eq (tgt := 66) E.1 E.2.1 dX9_addGutter_61 (by decide)) (fun hf => ?_) (fun hf => ?_)
        · refine lv_aload_n E.1 E.2.1 dX9_addGutter_66 rfl (lv_at hl 0 rfl) ?_
          refine x_callv E h hl 0 hf (fun r0 hr => c_X9_begins l D cy s00 _ S4  r0 hr) m_X9_begins rfl rfl kw1705 rfl rfl (Nat.le_of_ble_eq_true rfl) ⟨by decide, by decide⟩ ⟨Nat.zero_le _, Nat.zero_le _⟩ dX9_addGutter_67 (fun S5 H locs hf h => ?_)
          refine lv_aload_n E.1 E.2.1 dX9_addGutter_70 rfl (lv_at hl 0 rfl) ?_
          refine lv_aload_n E.1 E.2.1 dX9_addGutter_71 rfl (lv_at hl 0 rfl) ?_
          refine lv_iload_n E.1 E.2.1 dX9_addGutter_72 rfl (lv_at hl 1 rfl) ?_
          refine lv_iload_n E.1 E.2.1 dX9_addGutter_73 rfl (lv_at hl 2 rfl) ?_
          refine lv_iload_n E.1 E.2.1 dX9_addGutter_74 rfl (lv_at hl 3 rfl) ?_
          refine x_calli E h hl 0 hf (fun r0 Sq0 hr => c_X9_lays l D cy s00 _ S5 p0 p1 p2 r0 Sq0 hr) m_X9_lays rfl rfl kw1409 rfl rfl (Nat.le_of_ble_eq_true rfl) ⟨by decide, by decide⟩ ⟨Nat.zero_le _, Nat.zero_le _⟩ dX9_addGutter_75 (fun v6 S7 H locs hf h => ?_)
          refine x_calli E h hl 0 hf (fun r0 Sq0 hr => c_X9_remember l D cy s00 _ S7 v6 r0 Sq0 hr) m_X9_remember rfl rfl kw1709 rfl rfl (Nat.le_of_ble_eq_true rfl) ⟨by decide, by decide⟩ ⟨Nat.zero_le _, Nat.zero_le _⟩ dX9_addGutter_78 (fun v8 S9 H locs hf h => ?_)
          exact x_iret E h hf dX9_addGutter_81
        · refine lv_iconst (v := 0) E.1 E.2.1 dX9_addGutter_64 (by decide) ?_
          exact x_iret E h hf dX9_addGutter_65
      · refine lv_iconst (v := 1) E.1 E.2.1 dX9_addGutter_53 (by decide) ?_
        refine lv_goto (tgt := 58) E.1 E.2.1 dX9_addGutter_54 (by decide) ?_
        refine x_calli E h hl 0 hf (fun r0 Sq0 hr => c_X9_throwsOne__ l D cy s00 _ S 1 1 1 r0 Sq0 hr) m_X9_throwsOne__ rfl rfl kw1729 rfl rfl (Nat.le_of_ble_eq_true rfl) ⟨by decide, by decide⟩ ⟨Nat.zero_le _, Nat.zero_le _⟩ dX9_addGutter_58 (fun v10 S11 H locs hf h => ?_)
        refine x_br hf (lv_if_eq (tgt := 66) E.1 E.2.1 dX9_addGutter_61 (by decide)) (fun hf => ?_) (fun hf => ?_)
        · refine lv_aload_n E.1 E.2.1 dX9_addGutter_66 rfl (lv_at hl 0 rfl) ?_
          refine x_callv E h hl 0 hf (fun r0 hr => c_X9_begins l D cy s00 _ S11  r0 hr) m_X9_begins rfl rfl kw1705 rfl rfl (Nat.le_of_ble_eq_true rfl) ⟨by decide, by decide⟩ ⟨Nat.zero_le _, Nat.zero_le _⟩ dX9_addGutter_67 (fun S12 H locs hf h => ?_)
          refine lv_aload_n E.1 E.2.1 dX9_addGutter_70 rfl (lv_at hl 0 rfl) ?_
          refine lv_aload_n E.1 E.2.1 dX9_addGutter_71 rfl (lv_at hl 0 rfl) ?_
          refine lv_iload_n E.1 E.2.1 dX9_addGutter_72 rfl (lv_at hl 1 rfl) ?_
          refine lv_iload_n E.1 E.2.1 dX9_addGutter_73 rfl (lv_at hl 2 rfl) ?_
          refine lv_iload_n E.1 E.2.1 dX9_addGutter_74 rfl (lv_at hl 3 rfl) ?_
          refine x_calli E h hl 0 hf (fun r0 Sq0 hr => c_X9_lays l D cy s00 _ S12 p0 p1 p2 r0 Sq0 hr) m_X9_lays rfl rfl kw1409 rfl rfl (Nat.le_of_ble_eq_true rfl) ⟨by decide, by decide⟩ ⟨Nat.zero_le _, Nat.zero_le _⟩ dX9_addGutter_75 (fun v13 S14 H locs hf h => ?_)
          refine x_calli E h hl 0 hf (fun r0 Sq0 hr => c_X9_remember l D cy s00 _ S14 v13 r0 Sq0 hr) m_X9_remember rfl rfl kw1709 rfl rfl (Nat.le_of_ble_eq_true rfl) ⟨by decide, by decide⟩ ⟨Nat.zero_le _, Nat.zero_le _⟩ dX9_addGutter_78 (fun v15 S16 H locs hf h => ?_)
          exact x_iret E h hf dX9_addGutter_81
        · refine lv_iconst (v := 0) E.1 E.2.1 dX9_addGutter_64 (by decide) ?_
          exact x_iret E h hf dX9_addGutter_65
    · refine lv_iload_n E.1 E.2.1 dX9_addGutter_27 rfl (lv_at hl 3 rfl) ?_
      refine lv_iconst (v := 1) E.1 E.2.1 dX9_addGutter_28 (by decide) ?_
      refine lv_bipush (v := 9) E.1 E.2.1 dX9_addGutter_29 (by decide) ?_
      refine x_callsp E h hl hf (fun r0 hr => c_X9_in l D cy s00 _ _ p2 1 9 r0 hr) m_X9_in kw1378 rfl rfl (Nat.le_of_ble_eq_true rfl) ⟨by decide, by decide⟩ ⟨Nat.zero_le _, Nat.zero_le _⟩ dX9_addGutter_31 (fun v17 H locs hf h => ?_)
      refine x_brn hf (lv_if_ne (tgt := 41) E.1 E.2.1 dX9_addGutter_34 (by decide)) (fun hf => ?_) (fun hf => ?_)
      · refine lv_iconst (v := 0) E.1 E.2.1 dX9_addGutter_41 (by decide) ?_
        refine lv_aload_n E.1 E.2.1 dX9_addGutter_42 rfl (lv_at hl 0 rfl) ?_
        refine x_getr E h 0 0 1 rfl rfl rfl (by decide) xinX9 kw1610 dX9_addGutter_43 ?_
        refine lv_iconst (v := 1) E.1 E.2.1 dX9_addGutter_46 (by decide) ?_
        refine x_iald E h 1 hf rfl dX9_addGutter_47 (fun v18 hf => ?_)
        refine lv_bipush (v := 20) E.1 E.2.1 dX9_addGutter_48 (by decide) ?_
        refine x_brn hf (lv_icmp_ne (tgt := 57) E.1 E.2.1 dX9_addGutter_50 (by decide)) (fun hf => ?_) (fun hf => ?_)
        · refine lv_iconst (v := 0) E.1 E.2.1 dX9_addGutter_57 (by decide) ?_
          refine x_calli E h hl 0 hf (fun r0 Sq0 hr => c_X9_throwsOne__ l D cy s00 _ S 1 0 0 r0 Sq0 hr) m_X9_throwsOne__ rfl rfl kw1729 rfl rfl (Nat.le_of_ble_eq_true rfl) ⟨by decide, by decide⟩ ⟨Nat.zero_le _, Nat.zero_le _⟩ dX9_addGutter_58 (fun v19 S20 H locs hf h => ?_)
          refine x_br hf (lv_if_eq (tgt := 66) E.1 E.2.1 dX9_addGutter_61 (by decide)) (fun hf => ?_) (fun hf => ?_)
          · refine lv_aload_n E.1 E.2.1 dX9_addGutter_66 rfl (lv_at hl 0 rfl) ?_
            refine x_callv E h hl 0 hf (fun r0 hr => c_X9_begins l D cy s00 _ S20  r0 hr) m_X9_begins rfl rfl kw1705 rfl rfl (Nat.le_of_ble_eq_true rfl) ⟨by decide, by decide⟩ ⟨Nat.zero_le _, Nat.zero_le _⟩ dX9_addGutter_67 (fun S21 H locs hf h => ?_)
            refine lv_aload_n E.1 E.2.1 dX9_addGutter_70 rfl (lv_at hl 0 rfl) ?_
            refine lv_aload_n E.1 E.2.1 dX9_addGutter_71 rfl (lv_at hl 0 rfl) ?_
            refine lv_iload_n E.1 E.2.1 dX9_addGutter_72 rfl (lv_at hl 1 rfl) ?_
            refine lv_iload_n E.1 E.2.1 dX9_addGutter_73 rfl (lv_at hl 2 rfl) ?_
            refine lv_iload_n E.1 E.2.1 dX9_addGutter_74 rfl (lv_at hl 3 rfl) ?_
            refine x_calli E h hl 0 hf (fun r0 Sq0 hr => c_X9_lays l D cy s00 _ S21 p0 p1 p2 r0 Sq0 hr) m_X9_lays rfl rfl kw1409 rfl rfl (Nat.le_of_ble_eq_true rfl) ⟨by decide, by decide⟩ ⟨Nat.zero_le _, Nat.zero_le _⟩ dX9_addGutter_75 (fun v22 S23 H locs hf h => ?_)
            refine x_calli E h hl 0 hf (fun r0 Sq0 hr => c_X9_remember l D cy s00 _ S23 v22 r0 Sq0 hr) m_X9_remember rfl rfl kw1709 rfl rfl (Nat.le_of_ble_eq_true rfl) ⟨by decide, by decide⟩ ⟨Nat.zero_le _, Nat.zero_le _⟩ dX9_addGutter_78 (fun v24 S25 H locs hf h => ?_)
            exact x_iret E h hf dX9_addGutter_81
          · refine lv_iconst (v := 0) E.1 E.2.1 dX9_addGutter_64 (by decide) ?_
            exact x_iret E h hf dX9_addGutter_65
        · refine lv_iconst (v := 1) E.1 E.2.1 dX9_addGutter_53 (by decide) ?_
          refine lv_goto (tgt := 58) E.1 E.2.1 dX9_addGutter_54 (by decide) ?_
          refine x_calli E h hl 0 hf (fun r0 Sq0 hr => c_X9_throwsOne__ l D cy s00 _ S 1 0 1 r0 Sq0 hr) m_X9_throwsOne__ rfl rfl kw1729 rfl rfl (Nat.le_of_ble_eq_true rfl) ⟨by decide, by decide⟩ ⟨Nat.zero_le _, Nat.zero_le _⟩ dX9_addGutter_58 (fun v26 S27 H locs hf h => ?_)
          refine x_br hf (lv_if_eq (tgt := 66) E.1 E.2.1 dX9_addGutter_61 (by decide)) (fun hf => ?_) (fun hf => ?_)
          · refine lv_aload_n E.1 E.2.1 dX9_addGutter_66 rfl (lv_at hl 0 rfl) ?_
            refine x_callv E h hl 0 hf (fun r0 hr => c_X9_begins l D cy s00 _ S27  r0 hr) m_X9_begins rfl rfl kw1705 rfl rfl (Nat.le_of_ble_eq_true rfl) ⟨by decide, by decide⟩ ⟨Nat.zero_le _, Nat.zero_le _⟩ dX9_addGutter_67 (fun S28 H locs hf h => ?_)
            refine lv_aload_n E.1 E.2.1 dX9_addGutter_70 rfl (lv_at hl 0 rfl) ?_
            refine lv_aload_n E.1 E.2.1 dX9_addGutter_71 rfl (lv_at hl 0 rfl) ?_
            refine lv_iload_n E.1 E.2.1 dX9_addGutter_72 rfl (lv_at hl 1 rfl) ?_
            refine lv_iload_n E.1 E.2.1 dX9_addGutter_73 rfl (lv_at hl 2 rfl) ?_
            refine lv_iload_n E.1 E.2.1 dX9_addGutter_74 rfl (lv_at hl 3 rfl) ?_
            refine x_calli E h hl 0 hf (fun r0 Sq0 hr => c_X9_lays l D cy s00 _ S28 p0 p1 p2 r0 Sq0 hr) m_X9_lays rfl rfl kw1409 rfl rfl (Nat.le_of_ble_eq_true rfl) ⟨by decide, by decide⟩ ⟨Nat.zero_le _, Nat.zero_le _⟩ dX9_addGutter_75 (fun v29 S30 H locs hf h => ?_)
            refine x_calli E h hl 0 hf (fun r0 Sq0 hr => c_X9_remember l D cy s00 _ S30 v29 r0 Sq0 hr) m_X9_remember rfl rfl kw1709 rfl rfl (Nat.le_of_ble_eq_true rfl) ⟨by decide, by decide⟩ ⟨Nat.zero_le _, Nat.zero_le _⟩ dX9_addGutter_78 (fun v31 S32 H locs hf h => ?_)
            exact x_iret E h hf dX9_addGutter_81
          · refine lv_iconst (v := 0) E.1 E.2.1 dX9_addGutter_64 (by decide) ?_
            exact x_iret E h hf dX9_addGutter_65
      · refine lv_iconst (v := 1) E.1 E.2.1 dX9_addGutter_37 (by decide) ?_
        refine lv_goto (tgt := 42) E.1 E.2.1 dX9_addGutter_38 (by decide) ?_
        refine lv_aload_n E.1 E.2.1 dX9_addGutter_42 rfl (lv_at hl 0 rfl) ?_
        refine x_getr E h 0 0 1 rfl rfl rfl (by decide) xinX9 kw1610 dX9_addGutter_43 ?_
        refine lv_iconst (v := 1) E.1 E.2.1 dX9_addGutter_46 (by decide) ?_
        refine x_iald E h 1 hf rfl dX9_addGutter_47 (fun v33 hf => ?_)
        refine lv_bipush (v := 20) E.1 E.2.1 dX9_addGutter_48 (by decide) ?_
        refine x_brn hf (lv_icmp_ne (tgt := 57) E.1 E.2.1 dX9_addGutter_50 (by decide)) (fun hf => ?_) (fun hf => ?_)
        · refine lv_iconst (v := 0) E.1 E.2.1 dX9_addGutter_57 (by decide) ?_
          refine x_calli E h hl 0 hf (fun r0 Sq0 hr => c_X9_throwsOne__ l D cy s00 _ S 1 1 0 r0 Sq0 hr) m_X9_throwsOne__ rfl rfl kw1729 rfl rfl (Nat.le_of_ble_eq_true rfl) ⟨by decide, by decide⟩ ⟨Nat.zero_le _, Nat.zero_le _⟩ dX9_addGutter_58 (fun v34 S35 H locs hf h => ?_)
          refine x_br hf (lv_if_eq (tgt := 66) E.1 E.2.1 dX9_addGutter_61 (by decide)) (fun hf => ?_) (fun hf => ?_)
          · refine lv_aload_n E.1 E.2.1 dX9_addGutter_66 rfl (lv_at hl 0 rfl) ?_
            refine x_callv E h hl 0 hf (fun r0 hr => c_X9_begins l D cy s00 _ S35  r0 hr) m_X9_begins rfl rfl kw1705 rfl rfl (Nat.le_of_ble_eq_true rfl) ⟨by decide, by decide⟩ ⟨Nat.zero_le _, Nat.zero_le _⟩ dX9_addGutter_67 (fun S36 H locs hf h => ?_)
            refine lv_aload_n E.1 E.2.1 dX9_addGutter_70 rfl (lv_at hl 0 rfl) ?_
            refine lv_aload_n E.1 E.2.1 dX9_addGutter_71 rfl (lv_at hl 0 rfl) ?_
            refine lv_iload_n E.1 E.2.1 dX9_addGutter_72 rfl (lv_at hl 1 rfl) ?_
            refine lv_iload_n E.1 E.2.1 dX9_addGutter_73 rfl (lv_at hl 2 rfl) ?_
            refine lv_iload_n E.1 E.2.1 dX9_addGutter_74 rfl (lv_at hl 3 rfl) ?_
            refine x_calli E h hl 0 hf (fun r0 Sq0 hr => c_X9_lays l D cy s00 _ S36 p0 p1 p2 r0 Sq0 hr) m_X9_lays rfl rfl kw1409 rfl rfl (Nat.le_of_ble_eq_true rfl) ⟨by decide, by decide⟩ ⟨Nat.zero_le _, Nat.zero_le _⟩ dX9_addGutter_75 (fun v37 S38 H locs hf h => ?_)
            refine x_calli E h hl 0 hf (fun r0 Sq0 hr => c_X9_remember l D cy s00 _ S38 v37 r0 Sq0 hr) m_X9_remember rfl rfl kw1709 rfl rfl (Nat.le_of_ble_eq_true rfl) ⟨by decide, by decide⟩ ⟨Nat.zero_le _, Nat.zero_le _⟩ dX9_addGutter_78 (fun v39 S40 H locs hf h => ?_)
            exact x_iret E h hf dX9_addGutter_81
          · refine lv_iconst (v := 0) E.1 E.2.1 dX9_addGutter_64 (by decide) ?_
            exact x_iret E h hf dX9_addGutter_65
        · refine lv_iconst (v := 1) E.1 E.2.1 dX9_addGutter_53 (by decide) ?_
          refine lv_goto (tgt := 58) E.1 E.2.1 dX9_addGutter_54 (by decide) ?_
          refine x_calli E h hl 0 hf (fun r0 Sq0 hr => c_X9_throwsOne__ l D cy s00 _ S 1 1 1 r0 Sq0 hr) m_X9_throwsOne__ rfl rfl kw1729 rfl rfl (Nat.le_of_ble_eq_true rfl) ⟨by decide, by decide⟩ ⟨Nat.zero_le _, Nat.zero_le _⟩ dX9_addGutter_58 (fun v41 S42 H locs hf h => ?_)
          refine x_br hf (lv_if_eq (tgt := 66) E.1 E.2.1 dX9_addGutter_61 (by decide)) (fun hf => ?_) (fun hf => ?_)
          · refine lv_aload_n E.1 E.2.1 dX9_addGutter_66 rfl (lv_at hl 0 rfl) ?_
            refine x_callv E h hl 0 hf (fun r0 hr => c_X9_begins l D cy s00 _ S42  r0 hr) m_X9_begins rfl rfl kw1705 rfl rfl (Nat.le_of_ble_eq_true rfl) ⟨by decide, by decide⟩ ⟨Nat.zero_le _, Nat.zero_le _⟩ dX9_addGutter_67 (fun S43 H locs hf h => ?_)
            refine lv_aload_n E.1 E.2.1 dX9_addGutter_70 rfl (lv_at hl 0 rfl) ?_
            refine lv_aload_n E.1 E.2.1 dX9_addGutter_71 rfl (lv_at hl 0 rfl) ?_
            refine lv_iload_n E.1 E.2.1 dX9_addGutter_72 rfl (lv_at hl 1 rfl) ?_
            refine lv_iload_n E.1 E.2.1 dX9_addGutter_73 rfl (lv_at hl 2 rfl) ?_
            refine lv_iload_n E.1 E.2.1 dX9_addGutter_74 rfl (lv_at hl 3 rfl) ?_
            refine x_calli E h hl 0 hf (fun r0 Sq0 hr => c_X9_lays l D cy s00 _ S43 p0 p1 p2 r0 Sq0 hr) m_X9_lays rfl rfl kw1409 rfl rfl (Nat.le_of_ble_eq_true rfl) ⟨by decide, by decide⟩ ⟨Nat.zero_le _, Nat.zero_le _⟩ dX9_addGutter_75 (fun v44 S45 H locs hf h => ?_)
            refine x_calli E h hl 0 hf (fun r0 Sq0 hr => c_X9_remember l D cy s00 _ S45 v44 r0 Sq0 hr) m_X9_remember rfl rfl kw1709 rfl rfl (Nat.le_of_ble_eq_true rfl) ⟨by decide, by decide⟩ ⟨Nat.zero_le _, Nat.zero_le _⟩ dX9_addGutter_78 (fun v46 S47 H locs hf h => ?_)
            exact x_iret E h hf dX9_addGutter_81
          · refine lv_iconst (v := 0) E.1 E.2.1 dX9_addGutter_64 (by decide) ?_
            exact x_iret E h hf dX9_addGutter_65
  · refine lv_aload_n E.1 E.2.1 dX9_addGutter_9 rfl (lv_at hl 0 rfl) ?_
    refine lv_iload_n E.1 E.2.1 dX9_addGutter_10 rfl (lv_at hl 2 rfl) ?_
    refine x_callp E h hl 0 hf (fun r0 hr => c_X9_isChimney l D cy s00 _ S p1 r0 hr) m_X9_isChimney rfl rfl kw1725 rfl rfl (Nat.le_of_ble_eq_true rfl) ⟨by decide, by decide⟩ ⟨Nat.zero_le _, Nat.zero_le _⟩ dX9_addGutter_11 (fun v48 H locs hf h => ?_)
    refine x_brn hf (lv_if_ne (tgt := 21) E.1 E.2.1 dX9_addGutter_14 (by decide)) (fun hf => ?_) (fun hf => ?_)
    · refine lv_iconst (v := 0) E.1 E.2.1 dX9_addGutter_21 (by decide) ?_
      refine lv_iload_n E.1 E.2.1 dX9_addGutter_22 rfl (lv_at hl 1 rfl) ?_
      refine lv_iload_n E.1 E.2.1 dX9_addGutter_23 rfl (lv_at hl 2 rfl) ?_
      refine x_br hf (lv_icmp_eq (tgt := 37) E.1 E.2.1 dX9_addGutter_24 (by decide)) (fun hf => ?_) (fun hf => ?_)
      · refine lv_iconst (v := 1) E.1 E.2.1 dX9_addGutter_37 (by decide) ?_
        refine lv_goto (tgt := 42) E.1 E.2.1 dX9_addGutter_38 (by decide) ?_
        refine lv_aload_n E.1 E.2.1 dX9_addGutter_42 rfl (lv_at hl 0 rfl) ?_
        refine x_getr E h 0 0 1 rfl rfl rfl (by decide) xinX9 kw1610 dX9_addGutter_43 ?_
        refine lv_iconst (v := 1) E.1 E.2.1 dX9_addGutter_46 (by decide) ?_
        refine x_iald E h 1 hf rfl dX9_addGutter_47 (fun v49 hf => ?_)
        refine lv_bipush (v := 20) E.1 E.2.1 dX9_addGutter_48 (by decide) ?_
        refine x_brn hf (lv_icmp_ne (tgt := 57) E.1 E.2.1 dX9_addGutter_50 (by decide)) (fun hf => ?_) (fun hf => ?_)
        · refine lv_iconst (v := 0) E.1 E.2.1 dX9_addGutter_57 (by decide) ?_
          refine x_calli E h hl 0 hf (fun r0 Sq0 hr => c_X9_throwsOne__ l D cy s00 _ S 0 1 0 r0 Sq0 hr) m_X9_throwsOne__ rfl rfl kw1729 rfl rfl (Nat.le_of_ble_eq_true rfl) ⟨by decide, by decide⟩ ⟨Nat.zero_le _, Nat.zero_le _⟩ dX9_addGutter_58 (fun v50 S51 H locs hf h => ?_)
          refine x_br hf (lv_if_eq (tgt := 66) E.1 E.2.1 dX9_addGutter_61 (by decide)) (fun hf => ?_) (fun hf => ?_)
          · refine lv_aload_n E.1 E.2.1 dX9_addGutter_66 rfl (lv_at hl 0 rfl) ?_
            refine x_callv E h hl 0 hf (fun r0 hr => c_X9_begins l D cy s00 _ S51  r0 hr) m_X9_begins rfl rfl kw1705 rfl rfl (Nat.le_of_ble_eq_true rfl) ⟨by decide, by decide⟩ ⟨Nat.zero_le _, Nat.zero_le _⟩ dX9_addGutter_67 (fun S52 H locs hf h => ?_)
            refine lv_aload_n E.1 E.2.1 dX9_addGutter_70 rfl (lv_at hl 0 rfl) ?_
            refine lv_aload_n E.1 E.2.1 dX9_addGutter_71 rfl (lv_at hl 0 rfl) ?_
            refine lv_iload_n E.1 E.2.1 dX9_addGutter_72 rfl (lv_at hl 1 rfl) ?_
            refine lv_iload_n E.1 E.2.1 dX9_addGutter_73 rfl (lv_at hl 2 rfl) ?_
            refine lv_iload_n E.1 E.2.1 dX9_addGutter_74 rfl (lv_at hl 3 rfl) ?_
            refine x_calli E h hl 0 hf (fun r0 Sq0 hr => c_X9_lays l D cy s00 _ S52 p0 p1 p2 r0 Sq0 hr) m_X9_lays rfl rfl kw1409 rfl rfl (Nat.le_of_ble_eq_true rfl) ⟨by decide, by decide⟩ ⟨Nat.zero_le _, Nat.zero_le _⟩ dX9_addGutter_75 (fun v53 S54 H locs hf h => ?_)
            refine x_calli E h hl 0 hf (fun r0 Sq0 hr => c_X9_remember l D cy s00 _ S54 v53 r0 Sq0 hr) m_X9_remember rfl rfl kw1709 rfl rfl (Nat.le_of_ble_eq_true rfl) ⟨by decide, by decide⟩ ⟨Nat.zero_le _, Nat.zero_le _⟩ dX9_addGutter_78 (fun v55 S56 H locs hf h => ?_)
            exact x_iret E h hf dX9_addGutter_81
          · refine lv_iconst (v := 0) E.1 E.2.1 dX9_addGutter_64 (by decide) ?_
            exact x_iret E h hf dX9_addGutter_65
        · refine lv_iconst (v := 1) E.1 E.2.1 dX9_addGutter_53 (by decide) ?_
          refine lv_goto (tgt := 58) E.1 E.2.1 dX9_addGutter_54 (by decide) ?_
          refine x_calli E h hl 0 hf (fun r0 Sq0 hr => c_X9_throwsOne__ l D cy s00 _ S 0 1 1 r0 Sq0 hr) m_X9_throwsOne__ rfl rfl kw1729 rfl rfl (Nat.le_of_ble_eq_true rfl) ⟨by decide, by decide⟩ ⟨Nat.zero_le _, Nat.zero_le _⟩ dX9_addGutter_58 (fun v57 S58 H locs hf h => ?_)
          refine x_br hf (lv_if_eq (tgt := 66) E.1 E.2.1 dX9_addGutter_61 (by decide)) (fun hf => ?_) (fun hf => ?_)
          · refine lv_aload_n E.1 E.2.1 dX9_addGutter_66 rfl (lv_at hl 0 rfl) ?_
            refine x_callv E h hl 0 hf (fun r0 hr => c_X9_begins l D cy s00 _ S58  r0 hr) m_X9_begins rfl rfl kw1705 rfl rfl (Nat.le_of_ble_eq_true rfl) ⟨by decide, by decide⟩ ⟨Nat.zero_le _, Nat.zero_le _⟩ dX9_addGutter_67 (fun S59 H locs hf h => ?_)
            refine lv_aload_n E.1 E.2.1 dX9_addGutter_70 rfl (lv_at hl 0 rfl) ?_
            refine lv_aload_n E.1 E.2.1 dX9_addGutter_71 rfl (lv_at hl 0 rfl) ?_
            refine lv_iload_n E.1 E.2.1 dX9_addGutter_72 rfl (lv_at hl 1 rfl) ?_
            refine lv_iload_n E.1 E.2.1 dX9_addGutter_73 rfl (lv_at hl 2 rfl) ?_
            refine lv_iload_n E.1 E.2.1 dX9_addGutter_74 rfl (lv_at hl 3 rfl) ?_
            refine x_calli E h hl 0 hf (fun r0 Sq0 hr => c_X9_lays l D cy s00 _ S59 p0 p1 p2 r0 Sq0 hr) m_X9_lays rfl rfl kw1409 rfl rfl (Nat.le_of_ble_eq_true rfl) ⟨by decide, by decide⟩ ⟨Nat.zero_le _, Nat.zero_le _⟩ dX9_addGutter_75 (fun v60 S61 H locs hf h => ?_)
            refine x_calli E h hl 0 hf (fun r0 Sq0 hr => c_X9_remember l D cy s00 _ S61 v60 r0 Sq0 hr) m_X9_remember rfl rfl kw1709 rfl rfl (Nat.le_of_ble_eq_true rfl) ⟨by decide, by decide⟩ ⟨Nat.zero_le _, Nat.zero_le _⟩ dX9_addGutter_78 (fun v62 S63 H locs hf h => ?_)
            exact x_iret E h hf dX9_addGutter_81
          · refine lv_iconst (v := 0) E.1 E.2.1 dX9_addGutter_64 (by decide) ?_
            exact x_iret E h hf dX9_addGutter_65
      · refine lv_iload_n E.1 E.2.1 dX9_addGutter_27 rfl (lv_at hl 3 rfl) ?_
        refine lv_iconst (v := 1) E.1 E.2.1 dX9_addGutter_28 (by decide) ?_
        refine lv_bipush (v := 9) E.1 E.2.1 dX9_addGutter_29 (by decide) ?_
        refine x_callsp E h hl hf (fun r0 hr => c_X9_in l D cy s00 _ _ p2 1 9 r0 hr) m_X9_in kw1378 rfl rfl (Nat.le_of_ble_eq_true rfl) ⟨by decide, by decide⟩ ⟨Nat.zero_le _, Nat.zero_le _⟩ dX9_addGutter_31 (fun v64 H locs hf h => ?_)
        refine x_brn hf (lv_if_ne (tgt := 41) E.1 E.2.1 dX9_addGutter_34 (by decide)) (fun hf => ?_) (fun hf => ?_)
        · refine lv_iconst (v := 0) E.1 E.2.1 dX9_addGutter_41 (by decide) ?_
          refine lv_aload_n E.1 E.2.1 dX9_addGutter_42 rfl (lv_at hl 0 rfl) ?_
          refine x_getr E h 0 0 1 rfl rfl rfl (by decide) xinX9 kw1610 dX9_addGutter_43 ?_
          refine lv_iconst (v := 1) E.1 E.2.1 dX9_addGutter_46 (by decide) ?_
          refine x_iald E h 1 hf rfl dX9_addGutter_47 (fun v65 hf => ?_)
          refine lv_bipush (v := 20) E.1 E.2.1 dX9_addGutter_48 (by decide) ?_
          refine x_brn hf (lv_icmp_ne (tgt := 57) E.1 E.2.1 dX9_addGutter_50 (by decide)) (fun hf => ?_) (fun hf => ?_)
          · refine lv_iconst (v := 0) E.1 E.2.1 dX9_addGutter_57 (by decide) ?_
            refine x_calli E h hl 0 hf (fun r0 Sq0 hr => c_X9_throwsOne__ l D cy s00 _ S 0 0 0 r0 Sq0 hr) m_X9_throwsOne__ rfl rfl kw1729 rfl rfl (Nat.le_of_ble_eq_true rfl) ⟨by decide, by decide⟩ ⟨Nat.zero_le _, Nat.zero_le _⟩ dX9_addGutter_58 (fun v66 S67 H locs hf h => ?_)
            refine x_br hf (lv_if_eq (tgt := 66) E.1 E.2.1 dX9_addGutter_61 (by decide)) (fun hf => ?_) (fun hf => ?_)
            · refine lv_aload_n E.1 E.2.1 dX9_addGutter_66 rfl (lv_at hl 0 rfl) ?_
              refine x_callv E h hl 0 hf (fun r0 hr => c_X9_begins l D cy s00 _ S67  r0 hr) m_X9_begins rfl rfl kw1705 rfl rfl (Nat.le_of_ble_eq_true rfl) ⟨by decide, by decide⟩ ⟨Nat.zero_le _, Nat.zero_le _⟩ dX9_addGutter_67 (fun S68 H locs hf h => ?_)
              refine lv_aload_n E.1 E.2.1 dX9_addGutter_70 rfl (lv_at hl 0 rfl) ?_
              refine lv_aload_n E.1 E.2.1 dX9_addGutter_71 rfl (lv_at hl 0 rfl) ?_
              refine lv_iload_n E.1 E.2.1 dX9_addGutter_72 rfl (lv_at hl 1 rfl) ?_
              refine lv_iload_n E.1 E.2.1 dX9_addGutter_73 rfl (lv_at hl 2 rfl) ?_
              refine lv_iload_n E.1 E.2.1 dX9_addGutter_74 rfl (lv_at hl 3 rfl) ?_
              refine x_calli E h hl 0 hf (fun r0 Sq0 hr => c_X9_lays l D cy s00 _ S68 p0 p1 p2 r0 Sq0 hr) m_X9_lays rfl rfl kw1409 rfl rfl (Nat.le_of_ble_eq_true rfl) ⟨by decide, by decide⟩ ⟨Nat.zero_le _, Nat.zero_le _⟩ dX9_addGutter_75 (fun v69 S70 H locs hf h => ?_)
              refine x_calli E h hl 0 hf (fun r0 Sq0 hr => c_X9_remember l D cy s00 _ S70 v69 r0 Sq0 hr) m_X9_remember rfl rfl kw1709 rfl rfl (Nat.le_of_ble_eq_true rfl) ⟨by decide, by decide⟩ ⟨Nat.zero_le _, Nat.zero_le _⟩ dX9_addGutter_78 (fun v71 S72 H locs hf h => ?_)
              exact x_iret E h hf dX9_addGutter_81
            · refine lv_iconst (v := 0) E.1 E.2.1 dX9_addGutter_64 (by decide) ?_
              exact x_iret E h hf dX9_addGutter_65
          · refine lv_iconst (v := 1) E.1 E.2.1 dX9_addGutter_53 (by decide) ?_
            refine lv_goto (tgt := 58) E.1 E.2.1 dX9_addGutter_54 (by decide) ?_
            refine x_calli E h hl 0 hf (fun r0 Sq0 hr => c_X9_throwsOne__ l D cy s00 _ S 0 0 1 r0 Sq0 hr) m_X9_throwsOne__ rfl rfl kw1729 rfl rfl (Nat.le_of_ble_eq_true rfl) ⟨by decide, by decide⟩ ⟨Nat.zero_le _, Nat.zero_le _⟩ dX9_addGutter_58 (fun v73 S74 H locs hf h => ?_)
            refine x_br hf (lv_if_eq (tgt := 66) E.1 E.2.1 dX9_addGutter_61 (by decide)) (fun hf => ?_) (fun hf => ?_)
            · refine lv_aload_n E.1 E.2.1 dX9_addGutter_66 rfl (lv_at hl 0 rfl) ?_
              refine x_callv E h hl 0 hf (fun r0 hr => c_X9_begins l D cy s00 _ S74  r0 hr) m_X9_begins rfl rfl kw1705 rfl rfl (Nat.le_of_ble_eq_true rfl) ⟨by decide, by decide⟩ ⟨Nat.zero_le _, Nat.zero_le _⟩ dX9_addGutter_67 (fun S75 H locs hf h => ?_)
              refine lv_aload_n E.1 E.2.1 dX9_addGutter_70 rfl (lv_at hl 0 rfl) ?_
              refine lv_aload_n E.1 E.2.1 dX9_addGutter_71 rfl (lv_at hl 0 rfl) ?_
              refine lv_iload_n E.1 E.2.1 dX9_addGutter_72 rfl (lv_at hl 1 rfl) ?_
              refine lv_iload_n E.1 E.2.1 dX9_addGutter_73 rfl (lv_at hl 2 rfl) ?_
              refine lv_iload_n E.1 E.2.1 dX9_addGutter_74 rfl (lv_at hl 3 rfl) ?_
              refine x_calli E h hl 0 hf (fun r0 Sq0 hr => c_X9_lays l D cy s00 _ S75 p0 p1 p2 r0 Sq0 hr) m_X9_lays rfl rfl kw1409 rfl rfl (Nat.le_of_ble_eq_true rfl) ⟨by decide, by decide⟩ ⟨Nat.zero_le _, Nat.zero_le _⟩ dX9_addGutter_75 (fun v76 S77 H locs hf h => ?_)
              refine x_calli E h hl 0 hf (fun r0 Sq0 hr => c_X9_remember l D cy s00 _ S77 v76 r0 Sq0 hr) m_X9_remember rfl rfl kw1709 rfl rfl (Nat.le_of_ble_eq_true rfl) ⟨by decide, by decide⟩ ⟨Nat.zero_le _, Nat.zero_le _⟩ dX9_addGutter_78 (fun v78 S79 H locs hf h => ?_)
              exact x_iret E h hf dX9_addGutter_81
            · refine lv_iconst (v := 0) E.1 E.2.1 dX9_addGutter_64 (by decide) ?_
              exact x_iret E h hf dX9_addGutter_65
        · refine lv_iconst (v := 1) E.1 E.2.1 dX9_addGutter_37 (by decide) ?_
          refine lv_goto (tgt := 42) E.1 E.2.1 dX9_addGutter_38 (by decide) ?_
          refine lv_aload_n E.1 E.2.1 dX9_addGutter_42 rfl (lv_at hl 0 rfl) ?_
          refine x_getr E h 0 0 1 rfl rfl rfl (by decide) xinX9 kw1610 dX9_addGutter_43 ?_
          refine lv_iconst (v := 1) E.1 E.2.1 dX9_addGutter_46 (by decide) ?_
          refine x_iald E h 1 hf rfl dX9_addGutter_47 (fun v80 hf => ?_)
          refine lv_bipush (v := 20) E.1 E.2.1 dX9_addGutter_48 (by decide) ?_
          refine x_brn hf (lv_icmp_ne (tgt := 57) E.1 E.2.1 dX9_addGutter_50 (by decide)) (fun hf => ?_) (fun hf => ?_)
          · refine lv_iconst (v := 0) E.1 E.2.1 dX9_addGutter_57 (by decide) ?_
            refine x_calli E h hl 0 hf (fun r0 Sq0 hr => c_X9_throwsOne__ l D cy s00 _ S 0 1 0 r0 Sq0 hr) m_X9_throwsOne__ rfl rfl kw1729 rfl rfl (Nat.le_of_ble_eq_true rfl) ⟨by decide, by decide⟩ ⟨Nat.zero_le _, Nat.zero_le _⟩ dX9_addGutter_58 (fun v81 S82 H locs hf h => ?_)
            refine x_br hf (lv_if_eq (tgt := 66) E.1 E.2.1 dX9_addGutter_61 (by decide)) (fun hf => ?_) (fun hf => ?_)
            · refine lv_aload_n E.1 E.2.1 dX9_addGutter_66 rfl (lv_at hl 0 rfl) ?_
              refine x_callv E h hl 0 hf (fun r0 hr => c_X9_begins l D cy s00 _ S82  r0 hr) m_X9_begins rfl rfl kw1705 rfl rfl (Nat.le_of_ble_eq_true rfl) ⟨by decide, by decide⟩ ⟨Nat.zero_le _, Nat.zero_le _⟩ dX9_addGutter_67 (fun S83 H locs hf h => ?_)
              refine lv_aload_n E.1 E.2.1 dX9_addGutter_70 rfl (lv_at hl 0 rfl) ?_
              refine lv_aload_n E.1 E.2.1 dX9_addGutter_71 rfl (lv_at hl 0 rfl) ?_
              refine lv_iload_n E.1 E.2.1 dX9_addGutter_72 rfl (lv_at hl 1 rfl) ?_
              refine lv_iload_n E.1 E.2.1 dX9_addGutter_73 rfl (lv_at hl 2 rfl) ?_
              refine lv_iload_n E.1 E.2.1 dX9_addGutter_74 rfl (lv_at hl 3 rfl) ?_
              refine x_calli E h hl 0 hf (fun r0 Sq0 hr => c_X9_lays l D cy s00 _ S83 p0 p1 p2 r0 Sq0 hr) m_X9_lays rfl rfl kw1409 rfl rfl (Nat.le_of_ble_eq_true rfl) ⟨by decide, by decide⟩ ⟨Nat.zero_le _, Nat.zero_le _⟩ dX9_addGutter_75 (fun v84 S85 H locs hf h => ?_)
              refine x_calli E h hl 0 hf (fun r0 Sq0 hr => c_X9_remember l D cy s00 _ S85 v84 r0 Sq0 hr) m_X9_remember rfl rfl kw1709 rfl rfl (Nat.le_of_ble_eq_true rfl) ⟨by decide, by decide⟩ ⟨Nat.zero_le _, Nat.zero_le _⟩ dX9_addGutter_78 (fun v86 S87 H locs hf h => ?_)
              exact x_iret E h hf dX9_addGutter_81
            · refine lv_iconst (v := 0) E.1 E.2.1 dX9_addGutter_64 (by decide) ?_
              exact x_iret E h hf dX9_addGutter_65
          · refine lv_iconst (v := 1) E.1 E.2.1 dX9_addGutter_53 (by decide) ?_
            refine lv_goto (tgt := 58) E.1 E.2.1 dX9_addGutter_54 (by decide) ?_
            refine x_calli E h hl 0 hf (fun r0 Sq0 hr => c_X9_throwsOne__ l D cy s00 _ S 0 1 1 r0 Sq0 hr) m_X9_throwsOne__ rfl rfl kw1729 rfl rfl (Nat.le_of_ble_eq_true rfl) ⟨by decide, by decide⟩ ⟨Nat.zero_le _, Nat.zero_le _⟩ dX9_addGutter_58 (fun v88 S89 H locs hf h => ?_)
            refine x_br hf (lv_if_eq (tgt := 66) E.1 E.2.1 dX9_addGutter_61 (by decide)) (fun hf => ?_) (fun hf => ?_)
            · refine lv_aload_n E.1 E.2.1 dX9_addGutter_66 rfl (lv_at hl 0 rfl) ?_
              refine x_callv E h hl 0 hf (fun r0 hr => c_X9_begins l D cy s00 _ S89  r0 hr) m_X9_begins rfl rfl kw1705 rfl rfl (Nat.le_of_ble_eq_true rfl) ⟨by decide, by decide⟩ ⟨Nat.zero_le _, Nat.zero_le _⟩ dX9_addGutter_67 (fun S90 H locs hf h => ?_)
              refine lv_aload_n E.1 E.2.1 dX9_addGutter_70 rfl (lv_at hl 0 rfl) ?_
              refine lv_aload_n E.1 E.2.1 dX9_addGutter_71 rfl (lv_at hl 0 rfl) ?_
              refine lv_iload_n E.1 E.2.1 dX9_addGutter_72 rfl (lv_at hl 1 rfl) ?_
              refine lv_iload_n E.1 E.2.1 dX9_addGutter_73 rfl (lv_at hl 2 rfl) ?_
              refine lv_iload_n E.1 E.2.1 dX9_addGutter_74 rfl (lv_at hl 3 rfl) ?_
              refine x_calli E h hl 0 hf (fun r0 Sq0 hr => c_X9_lays l D cy s00 _ S90 p0 p1 p2 r0 Sq0 hr) m_X9_lays rfl rfl kw1409 rfl rfl (Nat.le_of_ble_eq_true rfl) ⟨by decide, by decide⟩ ⟨Nat.zero_le _, Nat.zero_le _⟩ dX9_addGutter_75 (fun v91 S92 H locs hf h => ?_)
              refine x_calli E h hl 0 hf (fun r0 Sq0 hr => c_X9_remember l D cy s00 _ S92 v91 r0 Sq0 hr) m_X9_remember rfl rfl kw1709 rfl rfl (Nat.le_of_ble_eq_true rfl) ⟨by decide, by decide⟩ ⟨Nat.zero_le _, Nat.zero_le _⟩ dX9_addGutter_78 (fun v93 S94 H locs hf h => ?_)
              exact x_iret E h hf dX9_addGutter_81
            · refine lv_iconst (v := 0) E.1 E.2.1 dX9_addGutter_64 (by decide) ?_
              exact x_iret E h hf dX9_addGutter_65
    · refine lv_iconst (v := 1) E.1 E.2.1 dX9_addGutter_17 (by decide) ?_
      refine lv_goto (tgt := 22) E.1 E.2.1 dX9_addGutter_18 (by decide) ?_
      refine lv_iload_n E.1 E.2.1 dX9_addGutter_22 rfl (lv_at hl 1 rfl) ?_
      refine lv_iload_n E.1 E.2.1 dX9_addGutter_23 rfl (lv_at hl 2 rfl) ?_
      refine x_br hf (lv_icmp_eq (tgt := 37) E.1 E.2.1 dX9_addGutter_24 (by decide)) (fun hf => ?_) (fun hf => ?_)
      · refine lv_iconst (v := 1) E.1 E.2.1 dX9_addGutter_37 (by decide) ?_
        refine lv_goto (tgt := 42) E.1 E.2.1 dX9_addGutter_38 (by decide) ?_
        refine lv_aload_n E.1 E.2.1 dX9_addGutter_42 rfl (lv_at hl 0 rfl) ?_
        refine x_getr E h 0 0 1 rfl rfl rfl (by decide) xinX9 kw1610 dX9_addGutter_43 ?_
        refine lv_iconst (v := 1) E.1 E.2.1 dX9_addGutter_46 (by decide) ?_
        refine x_iald E h 1 hf rfl dX9_addGutter_47 (fun v95 hf => ?_)
        refine lv_bipush (v := 20) E.1 E.2.1 dX9_addGutter_48 (by decide) ?_
        refine x_brn hf (lv_icmp_ne (tgt := 57) E.1 E.2.1 dX9_addGutter_50 (by decide)) (fun hf => ?_) (fun hf => ?_)
        · refine lv_iconst (v := 0) E.1 E.2.1 dX9_addGutter_57 (by decide) ?_
          refine x_calli E h hl 0 hf (fun r0 Sq0 hr => c_X9_throwsOne__ l D cy s00 _ S 1 1 0 r0 Sq0 hr) m_X9_throwsOne__ rfl rfl kw1729 rfl rfl (Nat.le_of_ble_eq_true rfl) ⟨by decide, by decide⟩ ⟨Nat.zero_le _, Nat.zero_le _⟩ dX9_addGutter_58 (fun v96 S97 H locs hf h => ?_)
          refine x_br hf (lv_if_eq (tgt := 66) E.1 E.2.1 dX9_addGutter_61 (by decide)) (fun hf => ?_) (fun hf => ?_)
          · refine lv_aload_n E.1 E.2.1 dX9_addGutter_66 rfl (lv_at hl 0 rfl) ?_
            refine x_callv E h hl 0 hf (fun r0 hr => c_X9_begins l D cy s00 _ S97  r0 hr) m_X9_begins rfl rfl kw1705 rfl rfl (Nat.le_of_ble_eq_true rfl) ⟨by decide, by decide⟩ ⟨Nat.zero_le _, Nat.zero_le _⟩ dX9_addGutter_67 (fun S98 H locs hf h => ?_)
            refine lv_aload_n E.1 E.2.1 dX9_addGutter_70 rfl (lv_at hl 0 rfl) ?_
            refine lv_aload_n E.1 E.2.1 dX9_addGutter_71 rfl (lv_at hl 0 rfl) ?_
            refine lv_iload_n E.1 E.2.1 dX9_addGutter_72 rfl (lv_at hl 1 rfl) ?_
            refine lv_iload_n E.1 E.2.1 dX9_addGutter_73 rfl (lv_at hl 2 rfl) ?_
            refine lv_iload_n E.1 E.2.1 dX9_addGutter_74 rfl (lv_at hl 3 rfl) ?_
            refine x_calli E h hl 0 hf (fun r0 Sq0 hr => c_X9_lays l D cy s00 _ S98 p0 p1 p2 r0 Sq0 hr) m_X9_lays rfl rfl kw1409 rfl rfl (Nat.le_of_ble_eq_true rfl) ⟨by decide, by decide⟩ ⟨Nat.zero_le _, Nat.zero_le _⟩ dX9_addGutter_75 (fun v99 S100 H locs hf h => ?_)
            refine x_calli E h hl 0 hf (fun r0 Sq0 hr => c_X9_remember l D cy s00 _ S100 v99 r0 Sq0 hr) m_X9_remember rfl rfl kw1709 rfl rfl (Nat.le_of_ble_eq_true rfl) ⟨by decide, by decide⟩ ⟨Nat.zero_le _, Nat.zero_le _⟩ dX9_addGutter_78 (fun v101 S102 H locs hf h => ?_)
            exact x_iret E h hf dX9_addGutter_81
          · refine lv_iconst (v := 0) E.1 E.2.1 dX9_addGutter_64 (by decide) ?_
            exact x_iret E h hf dX9_addGutter_65
        · refine lv_iconst (v := 1) E.1 E.2.1 dX9_addGutter_53 (by decide) ?_
          refine lv_goto (tgt := 58) E.1 E.2.1 dX9_addGutter_54 (by decide) ?_
          refine x_calli E h hl 0 hf (fun r0 Sq0 hr => c_X9_throwsOne__ l D cy s00 _ S 1 1 1 r0 Sq0 hr) m_X9_throwsOne__ rfl rfl kw1729 rfl rfl (Nat.le_of_ble_eq_true rfl) ⟨by decide, by decide⟩ ⟨Nat.zero_le _, Nat.zero_le _⟩ dX9_addGutter_58 (fun v103 S104 H locs hf h => ?_)
          refine x_br hf (lv_if_eq (tgt := 66) E.1 E.2.1 dX9_addGutter_61 (by decide)) (fun hf => ?_) (fun hf => ?_)
          · refine lv_aload_n E.1 E.2.1 dX9_addGutter_66 rfl (lv_at hl 0 rfl) ?_
            refine x_callv E h hl 0 hf (fun r0 hr => c_X9_begins l D cy s00 _ S104  r0 hr) m_X9_begins rfl rfl kw1705 rfl rfl (Nat.le_of_ble_eq_true rfl) ⟨by decide, by decide⟩ ⟨Nat.zero_le _, Nat.zero_le _⟩ dX9_addGutter_67 (fun S105 H locs hf h => ?_)
            refine lv_aload_n E.1 E.2.1 dX9_addGutter_70 rfl (lv_at hl 0 rfl) ?_
            refine lv_aload_n E.1 E.2.1 dX9_addGutter_71 rfl (lv_at hl 0 rfl) ?_
            refine lv_iload_n E.1 E.2.1 dX9_addGutter_72 rfl (lv_at hl 1 rfl) ?_
            refine lv_iload_n E.1 E.2.1 dX9_addGutter_73 rfl (lv_at hl 2 rfl) ?_
            refine lv_iload_n E.1 E.2.1 dX9_addGutter_74 rfl (lv_at hl 3 rfl) ?_
            refine x_calli E h hl 0 hf (fun r0 Sq0 hr => c_X9_lays l D cy s00 _ S105 p0 p1 p2 r0 Sq0 hr) m_X9_lays rfl rfl kw1409 rfl rfl (Nat.le_of_ble_eq_true rfl) ⟨by decide, by decide⟩ ⟨Nat.zero_le _, Nat.zero_le _⟩ dX9_addGutter_75 (fun v106 S107 H locs hf h => ?_)
            refine x_calli E h hl 0 hf (fun r0 Sq0 hr => c_X9_remember l D cy s00 _ S107 v106 r0 Sq0 hr) m_X9_remember rfl rfl kw1709 rfl rfl (Nat.le_of_ble_eq_true rfl) ⟨by decide, by decide⟩ ⟨Nat.zero_le _, Nat.zero_le _⟩ dX9_addGutter_78 (fun v108 S109 H locs hf h => ?_)
            exact x_iret E h hf dX9_addGutter_81
          · refine lv_iconst (v := 0) E.1 E.2.1 dX9_addGutter_64 (by decide) ?_
            exact x_iret E h hf dX9_addGutter_65
      · refine lv_iload_n E.1 E.2.1 dX9_addGutter_27 rfl (lv_at hl 3 rfl) ?_
        refine lv_iconst (v := 1) E.1 E.2.1 dX9_addGutter_28 (by decide) ?_
        refine lv_bipush (v := 9) E.1 E.2.1 dX9_addGutter_29 (by decide) ?_
        refine x_callsp E h hl hf (fun r0 hr => c_X9_in l D cy s00 _ _ p2 1 9 r0 hr) m_X9_in kw1378 rfl rfl (Nat.le_of_ble_eq_true rfl) ⟨by decide, by decide⟩ ⟨Nat.zero_le _, Nat.zero_le _⟩ dX9_addGutter_31 (fun v110 H locs hf h => ?_)
        refine x_brn hf (lv_if_ne (tgt := 41) E.1 E.2.1 dX9_addGutter_34 (by decide)) (fun hf => ?_) (fun hf => ?_)
        · refine lv_iconst (v := 0) E.1 E.2.1 dX9_addGutter_41 (by decide) ?_
          refine lv_aload_n E.1 E.2.1 dX9_addGutter_42 rfl (lv_at hl 0 rfl) ?_
          refine x_getr E h 0 0 1 rfl rfl rfl (by decide) xinX9 kw1610 dX9_addGutter_43 ?_
          refine lv_iconst (v := 1) E.1 E.2.1 dX9_addGutter_46 (by decide) ?_
          refine x_iald E h 1 hf rfl dX9_addGutter_47 (fun v111 hf => ?_)
          refine lv_bipush (v := 20) E.1 E.2.1 dX9_addGutter_48 (by decide) ?_
          refine x_brn hf (lv_icmp_ne (tgt := 57) E.1 E.2.1 dX9_addGutter_50 (by decide)) (fun hf => ?_) (fun hf => ?_)
          · refine lv_iconst (v := 0) E.1 E.2.1 dX9_addGutter_57 (by decide) ?_
            refine x_calli E h hl 0 hf (fun r0 Sq0 hr => c_X9_throwsOne__ l D cy s00 _ S 1 0 0 r0 Sq0 hr) m_X9_throwsOne__ rfl rfl kw1729 rfl rfl (Nat.le_of_ble_eq_true rfl) ⟨by decide, by decide⟩ ⟨Nat.zero_le _, Nat.zero_le _⟩ dX9_addGutter_58 (fun v112 S113 H locs hf h => ?_)
            refine x_br hf (lv_if_eq (tgt := 66) E.1 E.2.1 dX9_addGutter_61 (by decide)) (fun hf => ?_) (fun hf => ?_)
            · refine lv_aload_n E.1 E.2.1 dX9_addGutter_66 rfl (lv_at hl 0 rfl) ?_
              refine x_callv E h hl 0 hf (fun r0 hr => c_X9_begins l D cy s00 _ S113  r0 hr) m_X9_begins rfl rfl kw1705 rfl rfl (Nat.le_of_ble_eq_true rfl) ⟨by decide, by decide⟩ ⟨Nat.zero_le _, Nat.zero_le _⟩ dX9_addGutter_67 (fun S114 H locs hf h => ?_)
              refine lv_aload_n E.1 E.2.1 dX9_addGutter_70 rfl (lv_at hl 0 rfl) ?_
              refine lv_aload_n E.1 E.2.1 dX9_addGutter_71 rfl (lv_at hl 0 rfl) ?_
              refine lv_iload_n E.1 E.2.1 dX9_addGutter_72 rfl (lv_at hl 1 rfl) ?_
              refine lv_iload_n E.1 E.2.1 dX9_addGutter_73 rfl (lv_at hl 2 rfl) ?_
              refine lv_iload_n E.1 E.2.1 dX9_addGutter_74 rfl (lv_at hl 3 rfl) ?_
              refine x_calli E h hl 0 hf (fun r0 Sq0 hr => c_X9_lays l D cy s00 _ S114 p0 p1 p2 r0 Sq0 hr) m_X9_lays rfl rfl kw1409 rfl rfl (Nat.le_of_ble_eq_true rfl) ⟨by decide, by decide⟩ ⟨Nat.zero_le _, Nat.zero_le _⟩ dX9_addGutter_75 (fun v115 S116 H locs hf h => ?_)
              refine x_calli E h hl 0 hf (fun r0 Sq0 hr => c_X9_remember l D cy s00 _ S116 v115 r0 Sq0 hr) m_X9_remember rfl rfl kw1709 rfl rfl (Nat.le_of_ble_eq_true rfl) ⟨by decide, by decide⟩ ⟨Nat.zero_le _, Nat.zero_le _⟩ dX9_addGutter_78 (fun v117 S118 H locs hf h => ?_)
              exact x_iret E h hf dX9_addGutter_81
            · refine lv_iconst (v := 0) E.1 E.2.1 dX9_addGutter_64 (by decide) ?_
              exact x_iret E h hf dX9_addGutter_65
          · refine lv_iconst (v := 1) E.1 E.2.1 dX9_addGutter_53 (by decide) ?_
            refine lv_goto (tgt := 58) E.1 E.2.1 dX9_addGutter_54 (by decide) ?_
            refine x_calli E h hl 0 hf (fun r0 Sq0 hr => c_X9_throwsOne__ l D cy s00 _ S 1 0 1 r0 Sq0 hr) m_X9_throwsOne__ rfl rfl kw1729 rfl rfl (Nat.le_of_ble_eq_true rfl) ⟨by decide, by decide⟩ ⟨Nat.zero_le _, Nat.zero_le _⟩ dX9_addGutter_58 (fun v119 S120 H locs hf h => ?_)
            refine x_br hf (lv_if_eq (tgt := 66) E.1 E.2.1 dX9_addGutter_61 (by decide)) (fun hf => ?_) (fun hf => ?_)
            · refine lv_aload_n E.1 E.2.1 dX9_addGutter_66 rfl (lv_at hl 0 rfl) ?_
              refine x_callv E h hl 0 hf (fun r0 hr => c_X9_begins l D cy s00 _ S120  r0 hr) m_X9_begins rfl rfl kw1705 rfl rfl (Nat.le_of_ble_eq_true rfl) ⟨by decide, by decide⟩ ⟨Nat.zero_le _, Nat.zero_le _⟩ dX9_addGutter_67 (fun S121 H locs hf h => ?_)
              refine lv_aload_n E.1 E.2.1 dX9_addGutter_70 rfl (lv_at hl 0 rfl) ?_
              refine lv_aload_n E.1 E.2.1 dX9_addGutter_71 rfl (lv_at hl 0 rfl) ?_
              refine lv_iload_n E.1 E.2.1 dX9_addGutter_72 rfl (lv_at hl 1 rfl) ?_
              refine lv_iload_n E.1 E.2.1 dX9_addGutter_73 rfl (lv_at hl 2 rfl) ?_
              refine lv_iload_n E.1 E.2.1 dX9_addGutter_74 rfl (lv_at hl 3 rfl) ?_
              refine x_calli E h hl 0 hf (fun r0 Sq0 hr => c_X9_lays l D cy s00 _ S121 p0 p1 p2 r0 Sq0 hr) m_X9_lays rfl rfl kw1409 rfl rfl (Nat.le_of_ble_eq_true rfl) ⟨by decide, by decide⟩ ⟨Nat.zero_le _, Nat.zero_le _⟩ dX9_addGutter_75 (fun v122 S123 H locs hf h => ?_)
              refine x_calli E h hl 0 hf (fun r0 Sq0 hr => c_X9_remember l D cy s00 _ S123 v122 r0 Sq0 hr) m_X9_remember rfl rfl kw1709 rfl rfl (Nat.le_of_ble_eq_true rfl) ⟨by decide, by decide⟩ ⟨Nat.zero_le _, Nat.zero_le _⟩ dX9_addGutter_78 (fun v124 S125 H locs hf h => ?_)
              exact x_iret E h hf dX9_addGutter_81
            · refine lv_iconst (v := 0) E.1 E.2.1 dX9_addGutter_64 (by decide) ?_
              exact x_iret E h hf dX9_addGutter_65
        · refine lv_iconst (v := 1) E.1 E.2.1 dX9_addGutter_37 (by decide) ?_
          refine lv_goto (tgt := 42) E.1 E.2.1 dX9_addGutter_38 (by decide) ?_
          refine lv_aload_n E.1 E.2.1 dX9_addGutter_42 rfl (lv_at hl 0 rfl) ?_
          refine x_getr E h 0 0 1 rfl rfl rfl (by decide) xinX9 kw1610 dX9_addGutter_43 ?_
          refine lv_iconst (v := 1) E.1 E.2.1 dX9_addGutter_46 (by decide) ?_
          refine x_iald E h 1 hf rfl dX9_addGutter_47 (fun v126 hf => ?_)
          refine lv_bipush (v := 20) E.1 E.2.1 dX9_addGutter_48 (by decide) ?_
          refine x_brn hf (lv_icmp_ne (tgt := 57) E.1 E.2.1 dX9_addGutter_50 (by decide)) (fun hf => ?_) (fun hf => ?_)
          · refine lv_iconst (v := 0) E.1 E.2.1 dX9_addGutter_57 (by decide) ?_
            refine x_calli E h hl 0 hf (fun r0 Sq0 hr => c_X9_throwsOne__ l D cy s00 _ S 1 1 0 r0 Sq0 hr) m_X9_throwsOne__ rfl rfl kw1729 rfl rfl (Nat.le_of_ble_eq_true rfl) ⟨by decide, by decide⟩ ⟨Nat.zero_le _, Nat.zero_le _⟩ dX9_addGutter_58 (fun v127 S128 H locs hf h => ?_)
            refine x_br hf (lv_if_eq (tgt := 66) E.1 E.2.1 dX9_addGutter_61 (by decide)) (fun hf => ?_) (fun hf => ?_)
            · refine lv_aload_n E.1 E.2.1 dX9_addGutter_66 rfl (lv_at hl 0 rfl) ?_
              refine x_callv E h hl 0 hf (fun r0 hr => c_X9_begins l D cy s00 _ S128  r0 hr) m_X9_begins rfl rfl kw1705 rfl rfl (Nat.le_of_ble_eq_true rfl) ⟨by decide, by decide⟩ ⟨Nat.zero_le _, Nat.zero_le _⟩ dX9_addGutter_67 (fun S129 H locs hf h => ?_)
              refine lv_aload_n E.1 E.2.1 dX9_addGutter_70 rfl (lv_at hl 0 rfl) ?_
              refine lv_aload_n E.1 E.2.1 dX9_addGutter_71 rfl (lv_at hl 0 rfl) ?_
              refine lv_iload_n E.1 E.2.1 dX9_addGutter_72 rfl (lv_at hl 1 rfl) ?_
              refine lv_iload_n E.1 E.2.1 dX9_addGutter_73 rfl (lv_at hl 2 rfl) ?_
              refine lv_iload_n E.1 E.2.1 dX9_addGutter_74 rfl (lv_at hl 3 rfl) ?_
              refine x_calli E h hl 0 hf (fun r0 Sq0 hr => c_X9_lays l D cy s00 _ S129 p0 p1 p2 r0 Sq0 hr) m_X9_lays rfl rfl kw1409 rfl rfl (Nat.le_of_ble_eq_true rfl) ⟨by decide, by decide⟩ ⟨Nat.zero_le _, Nat.zero_le _⟩ dX9_addGutter_75 (fun v130 S131 H locs hf h => ?_)
              refine x_calli E h hl 0 hf (fun r0 Sq0 hr => c_X9_remember l D cy s00 _ S131 v130 r0 Sq0 hr) m_X9_remember rfl rfl kw1709 rfl rfl (Nat.le_of_ble_eq_true rfl) ⟨by decide, by decide⟩ ⟨Nat.zero_le _, Nat.zero_le _⟩ dX9_addGutter_78 (fun v132 S133 H locs hf h => ?_)
              exact x_iret E h hf dX9_addGutter_81
            · refine lv_iconst (v := 0) E.1 E.2.1 dX9_addGutter_64 (by decide) ?_
              exact x_iret E h hf dX9_addGutter_65
          · refine lv_iconst (v := 1) E.1 E.2.1 dX9_addGutter_53 (by decide) ?_
            refine lv_goto (tgt := 58) E.1 E.2.1 dX9_addGutter_54 (by decide) ?_
            refine x_calli E h hl 0 hf (fun r0 Sq0 hr => c_X9_throwsOne__ l D cy s00 _ S 1 1 1 r0 Sq0 hr) m_X9_throwsOne__ rfl rfl kw1729 rfl rfl (Nat.le_of_ble_eq_true rfl) ⟨by decide, by decide⟩ ⟨Nat.zero_le _, Nat.zero_le _⟩ dX9_addGutter_58 (fun v134 S135 H locs hf h => ?_)
            refine x_br hf (lv_if_eq (tgt := 66) E.1 E.2.1 dX9_addGutter_61 (by decide)) (fun hf => ?_) (fun hf => ?_)
            · refine lv_aload_n E.1 E.2.1 dX9_addGutter_66 rfl (lv_at hl 0 rfl) ?_
              refine x_callv E h hl 0 hf (fun r0 hr => c_X9_begins l D cy s00 _ S135  r0 hr) m_X9_begins rfl rfl kw1705 rfl rfl (Nat.le_of_ble_eq_true rfl) ⟨by decide, by decide⟩ ⟨Nat.zero_le _, Nat.zero_le _⟩ dX9_addGutter_67 (fun S136 H locs hf h => ?_)
              refine lv_aload_n E.1 E.2.1 dX9_addGutter_70 rfl (lv_at hl 0 rfl) ?_
              refine lv_aload_n E.1 E.2.1 dX9_addGutter_71 rfl (lv_at hl 0 rfl) ?_
              refine lv_iload_n E.1 E.2.1 dX9_addGutter_72 rfl (lv_at hl 1 rfl) ?_
              refine lv_iload_n E.1 E.2.1 dX9_addGutter_73 rfl (lv_at hl 2 rfl) ?_
              refine lv_iload_n E.1 E.2.1 dX9_addGutter_74 rfl (lv_at hl 3 rfl) ?_
              refine x_calli E h hl 0 hf (fun r0 Sq0 hr => c_X9_lays l D cy s00 _ S136 p0 p1 p2 r0 Sq0 hr) m_X9_lays rfl rfl kw1409 rfl rfl (Nat.le_of_ble_eq_true rfl) ⟨by decide, by decide⟩ ⟨Nat.zero_le _, Nat.zero_le _⟩ dX9_addGutter_75 (fun v137 S138 H locs hf h => ?_)
              refine x_calli E h hl 0 hf (fun r0 Sq0 hr => c_X9_remember l D cy s00 _ S138 v137 r0 Sq0 hr) m_X9_remember rfl rfl kw1709 rfl rfl (Nat.le_of_ble_eq_true rfl) ⟨by decide, by decide⟩ ⟨Nat.zero_le _, Nat.zero_le _⟩ dX9_addGutter_78 (fun v139 S140 H locs hf h => ?_)
              exact x_iret E h hf dX9_addGutter_81
            · refine lv_iconst (v := 0) E.1 E.2.1 dX9_addGutter_64 (by decide) ?_
              exact x_iret E h hf dX9_addGutter_65
set_option maxHeartbeats 4000000 in
set_option maxRecDepth 100000 in
theorem c_X9_areSizes (l : Launch) (D : va_G) (cy : Nat → ClassId) (s00 : State) (ad : Nat → Nat) (S : XS) (p0 p1 : Int32) (r9 : Int32) (hf : f_X9_areSizes p0 p1 = some r9) : XI l yX9_areSizes cX9_areSizes 2 (some .boolean) 1 D cy s00 [] ad S [.int p0, .int p1] r9 S := by
  refine XI.of (by decide) [(0, .int p0), (1, .int p1)] rfl (Nat.le_of_ble_eq_true rfl) (fun p e s m args below meth c A ls E h hl => ?_)
  unfold f_X9_areSizes at hf
  refine lv_iload_n E.1 E.2.1 dX9_areSizes_0 rfl (lv_at hl 0 rfl) ?_
  refine lv_iconst (v := 1) E.1 E.2.1 dX9_areSizes_1 (by decide) ?_
  refine lv_bipush (v := 9) E.1 E.2.1 dX9_areSizes_2 (by decide) ?_
  refine x_callsp E h hl hf (fun r0 hr => c_X9_in l D cy s00 _ _ p0 1 9 r0 hr) m_X9_in kw1378 rfl rfl (Nat.le_of_ble_eq_true rfl) ⟨by decide, by decide⟩ ⟨Nat.zero_le _, Nat.zero_le _⟩ dX9_areSizes_4 (fun v1 H locs hf h => ?_)
  refine x_br hf (lv_if_eq (tgt := 24) E.1 E.2.1 dX9_areSizes_7 (by decide)) (fun hf => ?_) (fun hf => ?_)
  · refine lv_iconst (v := 0) E.1 E.2.1 dX9_areSizes_24 (by decide) ?_
    exact x_zrc E h (by decide) hf dX9_areSizes_25
  · refine lv_iload_n E.1 E.2.1 dX9_areSizes_10 rfl (lv_at hl 1 rfl) ?_
    refine lv_iconst (v := 1) E.1 E.2.1 dX9_areSizes_11 (by decide) ?_
    refine lv_bipush (v := 9) E.1 E.2.1 dX9_areSizes_12 (by decide) ?_
    refine x_callsp E h hl hf (fun r0 hr => c_X9_in l D cy s00 _ _ p1 1 9 r0 hr) m_X9_in kw1378 rfl rfl (Nat.le_of_ble_eq_true rfl) ⟨by decide, by decide⟩ ⟨Nat.zero_le _, Nat.zero_le _⟩ dX9_areSizes_14 (fun v2 H locs hf h => ?_)
    refine x_br hf (lv_if_eq (tgt := 24) E.1 E.2.1 dX9_areSizes_17 (by decide)) (fun hf => ?_) (fun hf => ?_)
    · refine lv_iconst (v := 0) E.1 E.2.1 dX9_areSizes_24 (by decide) ?_
      exact x_zrc E h (by decide) hf dX9_areSizes_25
    · refine lv_iconst (v := 1) E.1 E.2.1 dX9_areSizes_20 (by decide) ?_
      refine lv_goto (tgt := 25) E.1 E.2.1 dX9_areSizes_21 (by decide) ?_
      exact x_zrc E h (by decide) hf dX9_areSizes_25
set_option maxHeartbeats 4000000 in
set_option maxRecDepth 100000 in
theorem c_X9_addCat (l : Launch) (D : va_G) (cy : Nat → ClassId) (s00 : State) (ad : Nat → Nat) (S : XS) (p0 p1 p2 : Int32) (r9 : Int32) (S9 : XS) (hf : f_X9_addCat S p0 p1 p2 = some (r9, S9)) : XI l yX9_addCat cX9_addCat 5 (some .int) 3 D cy s00 shMod ad S [.ref (ad 0), .int p0, .int p1, .int p2] r9 S9 := by
  refine XI.of (by decide) [(0, .ref (ad 0)), (1, .int p0), (2, .int p1), (3, .int p2)] rfl (Nat.le_of_ble_eq_true rfl) (fun p e s m args below meth c A ls E h hl => ?_)
  unfold f_X9_addCat at hf
  refine lv_aload_n E.1 E.2.1 dX9_addCat_0 rfl (lv_at hl 0 rfl) ?_
  refine lv_iload_n E.1 E.2.1 dX9_addCat_1 rfl (lv_at hl 1 rfl) ?_
  refine x_callp E h hl 0 hf (fun r0 hr => c_X9_isChimney l D cy s00 _ S p0 r0 hr) m_X9_isChimney rfl rfl kw1725 rfl rfl (Nat.le_of_ble_eq_true rfl) ⟨by decide, by decide⟩ ⟨Nat.zero_le _, Nat.zero_le _⟩ dX9_addCat_2 (fun v1 H locs hf h => ?_)
  refine lv_istore (lv' := [(4, .int v1), (0, .ref (ad 0)), (1, .int p0), (2, .int p1), (3, .int p2)]) E.1 E.2.1 dX9_addCat_5 hl (by decide) rfl (fun ls hl => ?_)
  refine lv_aload_n E.1 E.2.1 dX9_addCat_7 rfl (lv_at hl 1 rfl) ?_
  refine lv_iload E.1 E.2.1 dX9_addCat_8 (lv_at hl 0 rfl) ?_
  refine x_brn hf (lv_if_ne (tgt := 17) E.1 E.2.1 dX9_addCat_10 (by decide)) (fun hf => ?_) (fun hf => ?_)
  · refine lv_iconst (v := 0) E.1 E.2.1 dX9_addCat_17 (by decide) ?_
    refine lv_iload_n E.1 E.2.1 dX9_addCat_18 rfl (lv_at hl 3 rfl) ?_
    refine lv_iload_n E.1 E.2.1 dX9_addCat_19 rfl (lv_at hl 4 rfl) ?_
    refine x_callsp E h hl hf (fun r0 hr => c_X9_areSizes l D cy s00 _ _ p1 p2 r0 hr) m_X9_areSizes kw1737 rfl rfl (Nat.le_of_ble_eq_true rfl) ⟨by decide, by decide⟩ ⟨Nat.zero_le _, Nat.zero_le _⟩ dX9_addCat_20 (fun v2 H locs hf h => ?_)
    refine x_brn hf (lv_if_ne (tgt := 30) E.1 E.2.1 dX9_addCat_23 (by decide)) (fun hf => ?_) (fun hf => ?_)
    · refine lv_iconst (v := 0) E.1 E.2.1 dX9_addCat_30 (by decide) ?_
      refine lv_iload E.1 E.2.1 dX9_addCat_31 (lv_at hl 0 rfl) ?_
      refine x_br hf (lv_if_eq (tgt := 48) E.1 E.2.1 dX9_addCat_33 (by decide)) (fun hf => ?_) (fun hf => ?_)
      · refine lv_iconst (v := 0) E.1 E.2.1 dX9_addCat_48 (by decide) ?_
        refine x_calli E h hl 0 hf (fun r0 Sq0 hr => c_X9_throwsOne__ l D cy s00 _ S 0 0 0 r0 Sq0 hr) m_X9_throwsOne__ rfl rfl kw1729 rfl rfl (Nat.le_of_ble_eq_true rfl) ⟨by decide, by decide⟩ ⟨Nat.zero_le _, Nat.zero_le _⟩ dX9_addCat_49 (fun v3 S4 H locs hf h => ?_)
        refine x_br hf (lv_if_eq (tgt := 57) E.1 E.2.1 dX9_addCat_52 (by decide)) (fun hf => ?_) (fun hf => ?_)
        · refine lv_aload_n E.1 E.2.1 dX9_addCat_57 rfl (lv_at hl 1 rfl) ?_
          refine x_callv E h hl 0 hf (fun r0 hr => c_X9_begins l D cy s00 _ S4  r0 hr) m_X9_begins rfl rfl kw1705 rfl rfl (Nat.le_of_ble_eq_true rfl) ⟨by decide, by decide⟩ ⟨Nat.zero_le _, Nat.zero_le _⟩ dX9_addCat_58 (fun S5 H locs hf h => ?_)
          refine lv_aload_n E.1 E.2.1 dX9_addCat_61 rfl (lv_at hl 1 rfl) ?_
          refine lv_aload_n E.1 E.2.1 dX9_addCat_62 rfl (lv_at hl 1 rfl) ?_
          refine lv_iload_n E.1 E.2.1 dX9_addCat_63 rfl (lv_at hl 2 rfl) ?_
          refine lv_iload_n E.1 E.2.1 dX9_addCat_64 rfl (lv_at hl 3 rfl) ?_
          refine lv_iload_n E.1 E.2.1 dX9_addCat_65 rfl (lv_at hl 4 rfl) ?_
          refine x_calli E h hl 0 hf (fun r0 Sq0 hr => c_X9_enters l D cy s00 _ S5 p0 p1 p2 r0 Sq0 hr) m_X9_enters rfl rfl kw1433 rfl rfl (Nat.le_of_ble_eq_true rfl) ⟨by decide, by decide⟩ ⟨Nat.zero_le _, Nat.zero_le _⟩ dX9_addCat_66 (fun v6 S7 H locs hf h => ?_)
          refine x_calli E h hl 0 hf (fun r0 Sq0 hr => c_X9_remember l D cy s00 _ S7 v6 r0 Sq0 hr) m_X9_remember rfl rfl kw1709 rfl rfl (Nat.le_of_ble_eq_true rfl) ⟨by decide, by decide⟩ ⟨Nat.zero_le _, Nat.zero_le _⟩ dX9_addCat_69 (fun v8 S9 H locs hf h => ?_)
          exact x_iret E h hf dX9_addCat_72
        · refine lv_iconst (v := 0) E.1 E.2.1 dX9_addCat_55 (by decide) ?_
          exact x_iret E h hf dX9_addCat_56
      · refine lv_aload_n E.1 E.2.1 dX9_addCat_36 rfl (lv_at hl 1 rfl) ?_
        refine lv_iload_n E.1 E.2.1 dX9_addCat_37 rfl (lv_at hl 2 rfl) ?_
        refine x_callp E h hl 0 hf (fun r0 hr => c_X9_canEnter l D cy s00 _ S p0 r0 hr) m_X9_canEnter rfl rfl kw1421 rfl rfl (Nat.le_of_ble_eq_true rfl) ⟨by decide, by decide⟩ ⟨Nat.zero_le _, Nat.zero_le _⟩ dX9_addCat_38 (fun v10 H locs hf h => ?_)
        refine x_brn hf (lv_if_ne (tgt := 48) E.1 E.2.1 dX9_addCat_41 (by decide)) (fun hf => ?_) (fun hf => ?_)
        · refine lv_iconst (v := 0) E.1 E.2.1 dX9_addCat_48 (by decide) ?_
          refine x_calli E h hl 0 hf (fun r0 Sq0 hr => c_X9_throwsOne__ l D cy s00 _ S 0 0 0 r0 Sq0 hr) m_X9_throwsOne__ rfl rfl kw1729 rfl rfl (Nat.le_of_ble_eq_true rfl) ⟨by decide, by decide⟩ ⟨Nat.zero_le _, Nat.zero_le _⟩ dX9_addCat_49 (fun v11 S12 H locs hf h => ?_)
          refine x_br hf (lv_if_eq (tgt := 57) E.1 E.2.1 dX9_addCat_52 (by decide)) (fun hf => ?_) (fun hf => ?_)
          · refine lv_aload_n E.1 E.2.1 dX9_addCat_57 rfl (lv_at hl 1 rfl) ?_
            refine x_callv E h hl 0 hf (fun r0 hr => c_X9_begins l D cy s00 _ S12  r0 hr) m_X9_begins rfl rfl kw1705 rfl rfl (Nat.le_of_ble_eq_true rfl) ⟨by decide, by decide⟩ ⟨Nat.zero_le _, Nat.zero_le _⟩ dX9_addCat_58 (fun S13 H locs hf h => ?_)
            refine lv_aload_n E.1 E.2.1 dX9_addCat_61 rfl (lv_at hl 1 rfl) ?_
            refine lv_aload_n E.1 E.2.1 dX9_addCat_62 rfl (lv_at hl 1 rfl) ?_
            refine lv_iload_n E.1 E.2.1 dX9_addCat_63 rfl (lv_at hl 2 rfl) ?_
            refine lv_iload_n E.1 E.2.1 dX9_addCat_64 rfl (lv_at hl 3 rfl) ?_
            refine lv_iload_n E.1 E.2.1 dX9_addCat_65 rfl (lv_at hl 4 rfl) ?_
            refine x_calli E h hl 0 hf (fun r0 Sq0 hr => c_X9_enters l D cy s00 _ S13 p0 p1 p2 r0 Sq0 hr) m_X9_enters rfl rfl kw1433 rfl rfl (Nat.le_of_ble_eq_true rfl) ⟨by decide, by decide⟩ ⟨Nat.zero_le _, Nat.zero_le _⟩ dX9_addCat_66 (fun v14 S15 H locs hf h => ?_)
            refine x_calli E h hl 0 hf (fun r0 Sq0 hr => c_X9_remember l D cy s00 _ S15 v14 r0 Sq0 hr) m_X9_remember rfl rfl kw1709 rfl rfl (Nat.le_of_ble_eq_true rfl) ⟨by decide, by decide⟩ ⟨Nat.zero_le _, Nat.zero_le _⟩ dX9_addCat_69 (fun v16 S17 H locs hf h => ?_)
            exact x_iret E h hf dX9_addCat_72
          · refine lv_iconst (v := 0) E.1 E.2.1 dX9_addCat_55 (by decide) ?_
            exact x_iret E h hf dX9_addCat_56
        · refine lv_iconst (v := 1) E.1 E.2.1 dX9_addCat_44 (by decide) ?_
          refine lv_goto (tgt := 49) E.1 E.2.1 dX9_addCat_45 (by decide) ?_
          refine x_calli E h hl 0 hf (fun r0 Sq0 hr => c_X9_throwsOne__ l D cy s00 _ S 0 0 1 r0 Sq0 hr) m_X9_throwsOne__ rfl rfl kw1729 rfl rfl (Nat.le_of_ble_eq_true rfl) ⟨by decide, by decide⟩ ⟨Nat.zero_le _, Nat.zero_le _⟩ dX9_addCat_49 (fun v18 S19 H locs hf h => ?_)
          refine x_br hf (lv_if_eq (tgt := 57) E.1 E.2.1 dX9_addCat_52 (by decide)) (fun hf => ?_) (fun hf => ?_)
          · refine lv_aload_n E.1 E.2.1 dX9_addCat_57 rfl (lv_at hl 1 rfl) ?_
            refine x_callv E h hl 0 hf (fun r0 hr => c_X9_begins l D cy s00 _ S19  r0 hr) m_X9_begins rfl rfl kw1705 rfl rfl (Nat.le_of_ble_eq_true rfl) ⟨by decide, by decide⟩ ⟨Nat.zero_le _, Nat.zero_le _⟩ dX9_addCat_58 (fun S20 H locs hf h => ?_)
            refine lv_aload_n E.1 E.2.1 dX9_addCat_61 rfl (lv_at hl 1 rfl) ?_
            refine lv_aload_n E.1 E.2.1 dX9_addCat_62 rfl (lv_at hl 1 rfl) ?_
            refine lv_iload_n E.1 E.2.1 dX9_addCat_63 rfl (lv_at hl 2 rfl) ?_
            refine lv_iload_n E.1 E.2.1 dX9_addCat_64 rfl (lv_at hl 3 rfl) ?_
            refine lv_iload_n E.1 E.2.1 dX9_addCat_65 rfl (lv_at hl 4 rfl) ?_
            refine x_calli E h hl 0 hf (fun r0 Sq0 hr => c_X9_enters l D cy s00 _ S20 p0 p1 p2 r0 Sq0 hr) m_X9_enters rfl rfl kw1433 rfl rfl (Nat.le_of_ble_eq_true rfl) ⟨by decide, by decide⟩ ⟨Nat.zero_le _, Nat.zero_le _⟩ dX9_addCat_66 (fun v21 S22 H locs hf h => ?_)
            refine x_calli E h hl 0 hf (fun r0 Sq0 hr => c_X9_remember l D cy s00 _ S22 v21 r0 Sq0 hr) m_X9_remember rfl rfl kw1709 rfl rfl (Nat.le_of_ble_eq_true rfl) ⟨by decide, by decide⟩ ⟨Nat.zero_le _, Nat.zero_le _⟩ dX9_addCat_69 (fun v23 S24 H locs hf h => ?_)
            exact x_iret E h hf dX9_addCat_72
          · refine lv_iconst (v := 0) E.1 E.2.1 dX9_addCat_55 (by decide) ?_
            exact x_iret E h hf dX9_addCat_56
    · refine lv_iconst (v := 1) E.1 E.2.1 dX9_addCat_26 (by decide) ?_
      refine lv_goto (tgt := 31) E.1 E.2.1 dX9_addCat_27 (by decide) ?_
      refine lv_iload E.1 E.2.1 dX9_addCat_31 (lv_at hl 0 rfl) ?_
      refine x_br hf (lv_if_eq (tgt := 48) E.1 E.2.1 dX9_addCat_33 (by decide)) (fun hf => ?_) (fun hf => ?_)
      · refine lv_iconst (v := 0) E.1 E.2.1 dX9_addCat_48 (by decide) ?_
        refine x_calli E h hl 0 hf (fun r0 Sq0 hr => c_X9_throwsOne__ l D cy s00 _ S 0 1 0 r0 Sq0 hr) m_X9_throwsOne__ rfl rfl kw1729 rfl rfl (Nat.le_of_ble_eq_true rfl) ⟨by decide, by decide⟩ ⟨Nat.zero_le _, Nat.zero_le _⟩ dX9_addCat_49 (fun v25 S26 H locs hf h => ?_)
        refine x_br hf (lv_if_eq (tgt := 57) E.1 E.2.1 dX9_addCat_52 (by decide)) (fun hf => ?_) (fun hf => ?_)
        · refine lv_aload_n E.1 E.2.1 dX9_addCat_57 rfl (lv_at hl 1 rfl) ?_
          refine x_callv E h hl 0 hf (fun r0 hr => c_X9_begins l D cy s00 _ S26  r0 hr) m_X9_begins rfl rfl kw1705 rfl rfl (Nat.le_of_ble_eq_true rfl) ⟨by decide, by decide⟩ ⟨Nat.zero_le _, Nat.zero_le _⟩ dX9_addCat_58 (fun S27 H locs hf h => ?_)
          refine lv_aload_n E.1 E.2.1 dX9_addCat_61 rfl (lv_at hl 1 rfl) ?_
          refine lv_aload_n E.1 E.2.1 dX9_addCat_62 rfl (lv_at hl 1 rfl) ?_
          refine lv_iload_n E.1 E.2.1 dX9_addCat_63 rfl (lv_at hl 2 rfl) ?_
          refine lv_iload_n E.1 E.2.1 dX9_addCat_64 rfl (lv_at hl 3 rfl) ?_
          refine lv_iload_n E.1 E.2.1 dX9_addCat_65 rfl (lv_at hl 4 rfl) ?_
          refine x_calli E h hl 0 hf (fun r0 Sq0 hr => c_X9_enters l D cy s00 _ S27 p0 p1 p2 r0 Sq0 hr) m_X9_enters rfl rfl kw1433 rfl rfl (Nat.le_of_ble_eq_true rfl) ⟨by decide, by decide⟩ ⟨Nat.zero_le _, Nat.zero_le _⟩ dX9_addCat_66 (fun v28 S29 H locs hf h => ?_)
          refine x_calli E h hl 0 hf (fun r0 Sq0 hr => c_X9_remember l D cy s00 _ S29 v28 r0 Sq0 hr) m_X9_remember rfl rfl kw1709 rfl rfl (Nat.le_of_ble_eq_true rfl) ⟨by decide, by decide⟩ ⟨Nat.zero_le _, Nat.zero_le _⟩ dX9_addCat_69 (fun v30 S31 H locs hf h => ?_)
          exact x_iret E h hf dX9_addCat_72
        · refine lv_iconst (v := 0) E.1 E.2.1 dX9_addCat_55 (by decide) ?_
          exact x_iret E h hf dX9_addCat_56
      · refine lv_aload_n E.1 E.2.1 dX9_addCat_36 rfl (lv_at hl 1 rfl) ?_
        refine lv_iload_n E.1 E.2.1 dX9_addCat_37 rfl (lv_at hl 2 rfl) ?_
        refine x_callp E h hl 0 hf (fun r0 hr => c_X9_canEnter l D cy s00 _ S p0 r0 hr) m_X9_canEnter rfl rfl kw1421 rfl rfl (Nat.le_of_ble_eq_true rfl) ⟨by decide, by decide⟩ ⟨Nat.zero_le _, Nat.zero_le _⟩ dX9_addCat_38 (fun v32 H locs hf h => ?_)
        refine x_brn hf (lv_if_ne (tgt := 48) E.1 E.2.1 dX9_addCat_41 (by decide)) (fun hf => ?_) (fun hf => ?_)
        · refine lv_iconst (v := 0) E.1 E.2.1 dX9_addCat_48 (by decide) ?_
          refine x_calli E h hl 0 hf (fun r0 Sq0 hr => c_X9_throwsOne__ l D cy s00 _ S 0 1 0 r0 Sq0 hr) m_X9_throwsOne__ rfl rfl kw1729 rfl rfl (Nat.le_of_ble_eq_true rfl) ⟨by decide, by decide⟩ ⟨Nat.zero_le _, Nat.zero_le _⟩ dX9_addCat_49 (fun v33 S34 H locs hf h => ?_)
          refine x_br hf (lv_if_eq (tgt := 57) E.1 E.2.1 dX9_addCat_52 (by decide)) (fun hf => ?_) (fun hf => ?_)
          · refine lv_aload_n E.1 E.2.1 dX9_addCat_57 rfl (lv_at hl 1 rfl) ?_
            refine x_callv E h hl 0 hf (fun r0 hr => c_X9_begins l D cy s00 _ S34  r0 hr) m_X9_begins rfl rfl kw1705 rfl rfl (Nat.le_of_ble_eq_true rfl) ⟨by decide, by decide⟩ ⟨Nat.zero_le _, Nat.zero_le _⟩ dX9_addCat_58 (fun S35 H locs hf h => ?_)
            refine lv_aload_n E.1 E.2.1 dX9_addCat_61 rfl (lv_at hl 1 rfl) ?_
            refine lv_aload_n E.1 E.2.1 dX9_addCat_62 rfl (lv_at hl 1 rfl) ?_
            refine lv_iload_n E.1 E.2.1 dX9_addCat_63 rfl (lv_at hl 2 rfl) ?_
            refine lv_iload_n E.1 E.2.1 dX9_addCat_64 rfl (lv_at hl 3 rfl) ?_
            refine lv_iload_n E.1 E.2.1 dX9_addCat_65 rfl (lv_at hl 4 rfl) ?_
            refine x_calli E h hl 0 hf (fun r0 Sq0 hr => c_X9_enters l D cy s00 _ S35 p0 p1 p2 r0 Sq0 hr) m_X9_enters rfl rfl kw1433 rfl rfl (Nat.le_of_ble_eq_true rfl) ⟨by decide, by decide⟩ ⟨Nat.zero_le _, Nat.zero_le _⟩ dX9_addCat_66 (fun v36 S37 H locs hf h => ?_)
            refine x_calli E h hl 0 hf (fun r0 Sq0 hr => c_X9_remember l D cy s00 _ S37 v36 r0 Sq0 hr) m_X9_remember rfl rfl kw1709 rfl rfl (Nat.le_of_ble_eq_true rfl) ⟨by decide, by decide⟩ ⟨Nat.zero_le _, Nat.zero_le _⟩ dX9_addCat_69 (fun v38 S39 H locs hf h => ?_)
            exact x_iret E h hf dX9_addCat_72
          · refine lv_iconst (v := 0) E.1 E.2.1 dX9_addCat_55 (by decide) ?_
            exact x_iret E h hf dX9_addCat_56
        · refine lv_iconst (v := 1) E.1 E.2.1 dX9_addCat_44 (by decide) ?_
          refine lv_goto (tgt := 49) E.1 E.2.1 dX9_addCat_45 (by decide) ?_
          refine x_calli E h hl 0 hf (fun r0 Sq0 hr => c_X9_throwsOne__ l D cy s00 _ S 0 1 1 r0 Sq0 hr) m_X9_throwsOne__ rfl rfl kw1729 rfl rfl (Nat.le_of_ble_eq_true rfl) ⟨by decide, by decide⟩ ⟨Nat.zero_le _, Nat.zero_le _⟩ dX9_addCat_49 (fun v40 S41 H locs hf h => ?_)
          refine x_br hf (lv_if_eq (tgt := 57) E.1 E.2.1 dX9_addCat_52 (by decide)) (fun hf => ?_) (fun hf => ?_)
          · refine lv_aload_n E.1 E.2.1 dX9_addCat_57 rfl (lv_at hl 1 rfl) ?_
            refine x_callv E h hl 0 hf (fun r0 hr => c_X9_begins l D cy s00 _ S41  r0 hr) m_X9_begins rfl rfl kw1705 rfl rfl (Nat.le_of_ble_eq_true rfl) ⟨by decide, by decide⟩ ⟨Nat.zero_le _, Nat.zero_le _⟩ dX9_addCat_58 (fun S42 H locs hf h => ?_)
            refine lv_aload_n E.1 E.2.1 dX9_addCat_61 rfl (lv_at hl 1 rfl) ?_
            refine lv_aload_n E.1 E.2.1 dX9_addCat_62 rfl (lv_at hl 1 rfl) ?_
            refine lv_iload_n E.1 E.2.1 dX9_addCat_63 rfl (lv_at hl 2 rfl) ?_
            refine lv_iload_n E.1 E.2.1 dX9_addCat_64 rfl (lv_at hl 3 rfl) ?_
            refine lv_iload_n E.1 E.2.1 dX9_addCat_65 rfl (lv_at hl 4 rfl) ?_
            refine x_calli E h hl 0 hf (fun r0 Sq0 hr => c_X9_enters l D cy s00 _ S42 p0 p1 p2 r0 Sq0 hr) m_X9_enters rfl rfl kw1433 rfl rfl (Nat.le_of_ble_eq_true rfl) ⟨by decide, by decide⟩ ⟨Nat.zero_le _, Nat.zero_le _⟩ dX9_addCat_66 (fun v43 S44 H locs hf h => ?_)
            refine x_calli E h hl 0 hf (fun r0 Sq0 hr => c_X9_remember l D cy s00 _ S44 v43 r0 Sq0 hr) m_X9_remember rfl rfl kw1709 rfl rfl (Nat.le_of_ble_eq_true rfl) ⟨by decide, by decide⟩ ⟨Nat.zero_le _, Nat.zero_le _⟩ dX9_addCat_69 (fun v45 S46 H locs hf h => ?_)
            exact x_iret E h hf dX9_addCat_72
          · refine lv_iconst (v := 0) E.1 E.2.1 dX9_addCat_55 (by decide) ?_
            exact x_iret E h hf dX9_addCat_56
  · refine lv_iconst (v := 1) E.1 E.2.1 dX9_addCat_13 (by decide) ?_
    refine lv_goto (tgt := 18) E.1 E.2.1 dX9_addCat_14 (by decide) ?_
    refine lv_iload_n E.1 E.2.1 dX9_addCat_18 rfl (lv_at hl 3 rfl) ?_
    refine lv_iload_n E.1 E.2.1 dX9_addCat_19 rfl (lv_at hl 4 rfl) ?_
    refine x_callsp E h hl hf (fun r0 hr => c_X9_areSizes l D cy s00 _ _ p1 p2 r0 hr) m_X9_areSizes kw1737 rfl rfl (Nat.le_of_ble_eq_true rfl) ⟨by decide, by decide⟩ ⟨Nat.zero_le _, Nat.zero_le _⟩ dX9_addCat_20 (fun v47 H locs hf h => ?_)
    refine x_brn hf (lv_if_ne (tgt := 30) E.1 E.2.1 dX9_addCat_23 (by decide)) (fun hf => ?_) (fun hf => ?_)
    · refine lv_iconst (v := 0) E.1 E.2.1 dX9_addCat_30 (by decide) ?_
      refine lv_iload E.1 E.2.1 dX9_addCat_31 (lv_at hl 0 rfl) ?_
      refine x_br hf (lv_if_eq (tgt := 48) E.1 E.2.1 dX9_addCat_33 (by decide)) (fun hf => ?_) (fun hf => ?_)
      · refine lv_iconst (v := 0) E.1 E.2.1 dX9_addCat_48 (by decide) ?_
        refine x_calli E h hl 0 hf (fun r0 Sq0 hr => c_X9_throwsOne__ l D cy s00 _ S 1 0 0 r0 Sq0 hr) m_X9_throwsOne__ rfl rfl kw1729 rfl rfl (Nat.le_of_ble_eq_true rfl) ⟨by decide, by decide⟩ ⟨Nat.zero_le _, Nat.zero_le _⟩ dX9_addCat_49 (fun v48 S49 H locs hf h => ?_)
        refine x_br hf (lv_if_eq (tgt := 57) E.1 E.2.1 dX9_addCat_52 (by decide)) (fun hf => ?_) (fun hf => ?_)
        · refine lv_aload_n E.1 E.2.1 dX9_addCat_57 rfl (lv_at hl 1 rfl) ?_
          refine x_callv E h hl 0 hf (fun r0 hr => c_X9_begins l D cy s00 _ S49  r0 hr) m_X9_begins rfl rfl kw1705 rfl rfl (Nat.le_of_ble_eq_true rfl) ⟨by decide, by decide⟩ ⟨Nat.zero_le _, Nat.zero_le _⟩ dX9_addCat_58 (fun S50 H locs hf h => ?_)
          refine lv_aload_n E.1 E.2.1 dX9_addCat_61 rfl (lv_at hl 1 rfl) ?_
          refine lv_aload_n E.1 E.2.1 dX9_addCat_62 rfl (lv_at hl 1 rfl) ?_
          refine lv_iload_n E.1 E.2.1 dX9_addCat_63 rfl (lv_at hl 2 rfl) ?_
          refine lv_iload_n E.1 E.2.1 dX9_addCat_64 rfl (lv_at hl 3 rfl) ?_
          refine lv_iload_n E.1 E.2.1 dX9_addCat_65 rfl (lv_at hl 4 rfl) ?_
          refine x_calli E h hl 0 hf (fun r0 Sq0 hr => c_X9_enters l D cy s00 _ S50 p0 p1 p2 r0 Sq0 hr) m_X9_enters rfl rfl kw1433 rfl rfl (Nat.le_of_ble_eq_true rfl) ⟨by decide, by decide⟩ ⟨Nat.zero_le _, Nat.zero_le _⟩ dX9_addCat_66 (fun v51 S52 H locs hf h => ?_)
          refine x_calli E h hl 0 hf (fun r0 Sq0 hr => c_X9_remember l D cy s00 _ S52 v51 r0 Sq0 hr) m_X9_remember rfl rfl kw1709 rfl rfl (Nat.le_of_ble_eq_true rfl) ⟨by decide, by decide⟩ ⟨Nat.zero_le _, Nat.zero_le _⟩ dX9_addCat_69 (fun v53 S54 H locs hf h => ?_)
          exact x_iret E h hf dX9_addCat_72
        · refine lv_iconst (v := 0) E.1 E.2.1 dX9_addCat_55 (by decide) ?_
          exact x_iret E h hf dX9_addCat_56
      · refine lv_aload_n E.1 E.2.1 dX9_addCat_36 rfl (lv_at hl 1 rfl) ?_
        refine lv_iload_n E.1 E.2.1 dX9_addCat_37 rfl (lv_at hl 2 rfl) ?_
        refine x_callp E h hl 0 hf (fun r0 hr => c_X9_canEnter l D cy s00 _ S p0 r0 hr) m_X9_canEnter rfl rfl kw1421 rfl rfl (Nat.le_of_ble_eq_true rfl) ⟨by decide, by decide⟩ ⟨Nat.zero_le _, Nat.zero_le _⟩ dX9_addCat_38 (fun v55 H locs hf h => ?_)
        refine x_brn hf (lv_if_ne (tgt := 48) E.1 E.2.1 dX9_addCat_41 (by decide)) (fun hf => ?_) (fun hf => ?_)
        · refine lv_iconst (v := 0) E.1 E.2.1 dX9_addCat_48 (by decide) ?_
          refine x_calli E h hl 0 hf (fun r0 Sq0 hr => c_X9_throwsOne__ l D cy s00 _ S 1 0 0 r0 Sq0 hr) m_X9_throwsOne__ rfl rfl kw1729 rfl rfl (Nat.le_of_ble_eq_true rfl) ⟨by decide, by decide⟩ ⟨Nat.zero_le _, Nat.zero_le _⟩ dX9_addCat_49 (fun v56 S57 H locs hf h => ?_)
          refine x_br hf (lv_if_eq (tgt := 57) E.1 E.2.1 dX9_addCat_52 (by decide)) (fun hf => ?_) (fun hf => ?_)
          · refine lv_aload_n E.1 E.2.1 dX9_addCat_57 rfl (lv_at hl 1 rfl) ?_
            refine x_callv E h hl 0 hf (fun r0 hr => c_X9_begins l D cy s00 _ S57  r0 hr) m_X9_begins rfl rfl kw1705 rfl rfl (Nat.le_of_ble_eq_true rfl) ⟨by decide, by decide⟩ ⟨Nat.zero_le _, Nat.zero_le _⟩ dX9_addCat_58 (fun S58 H locs hf h => ?_)
            refine lv_aload_n E.1 E.2.1 dX9_addCat_61 rfl (lv_at hl 1 rfl) ?_
            refine lv_aload_n E.1 E.2.1 dX9_addCat_62 rfl (lv_at hl 1 rfl) ?_
            refine lv_iload_n E.1 E.2.1 dX9_addCat_63 rfl (lv_at hl 2 rfl) ?_
            refine lv_iload_n E.1 E.2.1 dX9_addCat_64 rfl (lv_at hl 3 rfl) ?_
            refine lv_iload_n E.1 E.2.1 dX9_addCat_65 rfl (lv_at hl 4 rfl) ?_
            refine x_calli E h hl 0 hf (fun r0 Sq0 hr => c_X9_enters l D cy s00 _ S58 p0 p1 p2 r0 Sq0 hr) m_X9_enters rfl rfl kw1433 rfl rfl (Nat.le_of_ble_eq_true rfl) ⟨by decide, by decide⟩ ⟨Nat.zero_le _, Nat.zero_le _⟩ dX9_addCat_66 (fun v59 S60 H locs hf h => ?_)
            refine x_calli E h hl 0 hf (fun r0 Sq0 hr => c_X9_remember l D cy s00 _ S60 v59 r0 Sq0 hr) m_X9_remember rfl rfl kw1709 rfl rfl (Nat.le_of_ble_eq_true rfl) ⟨by decide, by decide⟩ ⟨Nat.zero_le _, Nat.zero_le _⟩ dX9_addCat_69 (fun v61 S62 H locs hf h => ?_)
            exact x_iret E h hf dX9_addCat_72
          · refine lv_iconst (v := 0) E.1 E.2.1 dX9_addCat_55 (by decide) ?_
            exact x_iret E h hf dX9_addCat_56
        · refine lv_iconst (v := 1) E.1 E.2.1 dX9_addCat_44 (by decide) ?_
          refine lv_goto (tgt := 49) E.1 E.2.1 dX9_addCat_45 (by decide) ?_
          refine x_calli E h hl 0 hf (fun r0 Sq0 hr => c_X9_throwsOne__ l D cy s00 _ S 1 0 1 r0 Sq0 hr) m_X9_throwsOne__ rfl rfl kw1729 rfl rfl (Nat.le_of_ble_eq_true rfl) ⟨by decide, by decide⟩ ⟨Nat.zero_le _, Nat.zero_le _⟩ dX9_addCat_49 (fun v63 S64 H locs hf h => ?_)
          refine x_br hf (lv_if_eq (tgt := 57) E.1 E.2.1 dX9_addCat_52 (by decide)) (fun hf => ?_) (fun hf => ?_)
          · refine lv_aload_n E.1 E.2.1 dX9_addCat_57 rfl (lv_at hl 1 rfl) ?_
            refine x_callv E h hl 0 hf (fun r0 hr => c_X9_begins l D cy s00 _ S64  r0 hr) m_X9_begins rfl rfl kw1705 rfl rfl (Nat.le_of_ble_eq_true rfl) ⟨by decide, by decide⟩ ⟨Nat.zero_le _, Nat.zero_le _⟩ dX9_addCat_58 (fun S65 H locs hf h => ?_)
            refine lv_aload_n E.1 E.2.1 dX9_addCat_61 rfl (lv_at hl 1 rfl) ?_
            refine lv_aload_n E.1 E.2.1 dX9_addCat_62 rfl (lv_at hl 1 rfl) ?_
            refine lv_iload_n E.1 E.2.1 dX9_addCat_63 rfl (lv_at hl 2 rfl) ?_
            refine lv_iload_n E.1 E.2.1 dX9_addCat_64 rfl (lv_at hl 3 rfl) ?_
            refine lv_iload_n E.1 E.2.1 dX9_addCat_65 rfl (lv_at hl 4 rfl) ?_
            refine x_calli E h hl 0 hf (fun r0 Sq0 hr => c_X9_enters l D cy s00 _ S65 p0 p1 p2 r0 Sq0 hr) m_X9_enters rfl rfl kw1433 rfl rfl (Nat.le_of_ble_eq_true rfl) ⟨by decide, by decide⟩ ⟨Nat.zero_le _, Nat.zero_le _⟩ dX9_addCat_66 (fun v66 S67 H locs hf h => ?_)
            refine x_calli E h hl 0 hf (fun r0 Sq0 hr => c_X9_remember l D cy s00 _ S67 v66 r0 Sq0 hr) m_X9_remember rfl rfl kw1709 rfl rfl (Nat.le_of_ble_eq_true rfl) ⟨by decide, by decide⟩ ⟨Nat.zero_le _, Nat.zero_le _⟩ dX9_addCat_69 (fun v68 S69 H locs hf h => ?_)
            exact x_iret E h hf dX9_addCat_72
          · refine lv_iconst (v := 0) E.1 E.2.1 dX9_addCat_55 (by decide) ?_
            exact x_iret E h hf dX9_addCat_56
    · refine lv_iconst (v := 1) E.1 E.2.1 dX9_addCat_26 (by decide) ?_
      refine lv_goto (tgt := 31) E.1 E.2.1 dX9_addCat_27 (by decide) ?_
      refine lv_iload E.1 E.2.1 dX9_addCat_31 (lv_at hl 0 rfl) ?_
      refine x_br hf (lv_if_eq (tgt := 48) E.1 E.2.1 dX9_addCat_33 (by decide)) (fun hf => ?_) (fun hf => ?_)
      · refine lv_iconst (v := 0) E.1 E.2.1 dX9_addCat_48 (by decide) ?_
        refine x_calli E h hl 0 hf (fun r0 Sq0 hr => c_X9_throwsOne__ l D cy s00 _ S 1 1 0 r0 Sq0 hr) m_X9_throwsOne__ rfl rfl kw1729 rfl rfl (Nat.le_of_ble_eq_true rfl) ⟨by decide, by decide⟩ ⟨Nat.zero_le _, Nat.zero_le _⟩ dX9_addCat_49 (fun v70 S71 H locs hf h => ?_)
        refine x_br hf (lv_if_eq (tgt := 57) E.1 E.2.1 dX9_addCat_52 (by decide)) (fun hf => ?_) (fun hf => ?_)
        · refine lv_aload_n E.1 E.2.1 dX9_addCat_57 rfl (lv_at hl 1 rfl) ?_
          refine x_callv E h hl 0 hf (fun r0 hr => c_X9_begins l D cy s00 _ S71  r0 hr) m_X9_begins rfl rfl kw1705 rfl rfl (Nat.le_of_ble_eq_true rfl) ⟨by decide, by decide⟩ ⟨Nat.zero_le _, Nat.zero_le _⟩ dX9_addCat_58 (fun S72 H locs hf h => ?_)
          refine lv_aload_n E.1 E.2.1 dX9_addCat_61 rfl (lv_at hl 1 rfl) ?_
          refine lv_aload_n E.1 E.2.1 dX9_addCat_62 rfl (lv_at hl 1 rfl) ?_
          refine lv_iload_n E.1 E.2.1 dX9_addCat_63 rfl (lv_at hl 2 rfl) ?_
          refine lv_iload_n E.1 E.2.1 dX9_addCat_64 rfl (lv_at hl 3 rfl) ?_
          refine lv_iload_n E.1 E.2.1 dX9_addCat_65 rfl (lv_at hl 4 rfl) ?_
          refine x_calli E h hl 0 hf (fun r0 Sq0 hr => c_X9_enters l D cy s00 _ S72 p0 p1 p2 r0 Sq0 hr) m_X9_enters rfl rfl kw1433 rfl rfl (Nat.le_of_ble_eq_true rfl) ⟨by decide, by decide⟩ ⟨Nat.zero_le _, Nat.zero_le _⟩ dX9_addCat_66 (fun v73 S74 H locs hf h => ?_)
          refine x_calli E h hl 0 hf (fun r0 Sq0 hr => c_X9_remember l D cy s00 _ S74 v73 r0 Sq0 hr) m_X9_remember rfl rfl kw1709 rfl rfl (Nat.le_of_ble_eq_true rfl) ⟨by decide, by decide⟩ ⟨Nat.zero_le _, Nat.zero_le _⟩ dX9_addCat_69 (fun v75 S76 H locs hf h => ?_)
          exact x_iret E h hf dX9_addCat_72
        · refine lv_iconst (v := 0) E.1 E.2.1 dX9_addCat_55 (by decide) ?_
          exact x_iret E h hf dX9_addCat_56
      · refine lv_aload_n E.1 E.2.1 dX9_addCat_36 rfl (lv_at hl 1 rfl) ?_
        refine lv_iload_n E.1 E.2.1 dX9_addCat_37 rfl (lv_at hl 2 rfl) ?_
        refine x_callp E h hl 0 hf (fun r0 hr => c_X9_canEnter l D cy s00 _ S p0 r0 hr) m_X9_canEnter rfl rfl kw1421 rfl rfl (Nat.le_of_ble_eq_true rfl) ⟨by decide, by decide⟩ ⟨Nat.zero_le _, Nat.zero_le _⟩ dX9_addCat_38 (fun v77 H locs hf h => ?_)
        refine x_brn hf (lv_if_ne (tgt := 48) E.1 E.2.1 dX9_addCat_41 (by decide)) (fun hf => ?_) (fun hf => ?_)
        · refine lv_iconst (v := 0) E.1 E.2.1 dX9_addCat_48 (by decide) ?_
          refine x_calli E h hl 0 hf (fun r0 Sq0 hr => c_X9_throwsOne__ l D cy s00 _ S 1 1 0 r0 Sq0 hr) m_X9_throwsOne__ rfl rfl kw1729 rfl rfl (Nat.le_of_ble_eq_true rfl) ⟨by decide, by decide⟩ ⟨Nat.zero_le _, Nat.zero_le _⟩ dX9_addCat_49 (fun v78 S79 H locs hf h => ?_)
          refine x_br hf (lv_if_eq (tgt := 57) E.1 E.2.1 dX9_addCat_52 (by decide)) (fun hf => ?_) (fun hf => ?_)
          · refine lv_aload_n E.1 E.2.1 dX9_addCat_57 rfl (lv_at hl 1 rfl) ?_
            refine x_callv E h hl 0 hf (fun r0 hr => c_X9_begins l D cy s00 _ S79  r0 hr) m_X9_begins rfl rfl kw1705 rfl rfl (Nat.le_of_ble_eq_true rfl) ⟨by decide, by decide⟩ ⟨Nat.zero_le _, Nat.zero_le _⟩ dX9_addCat_58 (fun S80 H locs hf h => ?_)
            refine lv_aload_n E.1 E.2.1 dX9_addCat_61 rfl (lv_at hl 1 rfl) ?_
            refine lv_aload_n E.1 E.2.1 dX9_addCat_62 rfl (lv_at hl 1 rfl) ?_
            refine lv_iload_n E.1 E.2.1 dX9_addCat_63 rfl (lv_at hl 2 rfl) ?_
            refine lv_iload_n E.1 E.2.1 dX9_addCat_64 rfl (lv_at hl 3 rfl) ?_
            refine lv_iload_n E.1 E.2.1 dX9_addCat_65 rfl (lv_at hl 4 rfl) ?_
            refine x_calli E h hl 0 hf (fun r0 Sq0 hr => c_X9_enters l D cy s00 _ S80 p0 p1 p2 r0 Sq0 hr) m_X9_enters rfl rfl kw1433 rfl rfl (Nat.le_of_ble_eq_true rfl) ⟨by decide, by decide⟩ ⟨Nat.zero_le _, Nat.zero_le _⟩ dX9_addCat_66 (fun v81 S82 H locs hf h => ?_)
            refine x_calli E h hl 0 hf (fun r0 Sq0 hr => c_X9_remember l D cy s00 _ S82 v81 r0 Sq0 hr) m_X9_remember rfl rfl kw1709 rfl rfl (Nat.le_of_ble_eq_true rfl) ⟨by decide, by decide⟩ ⟨Nat.zero_le _, Nat.zero_le _⟩ dX9_addCat_69 (fun v83 S84 H locs hf h => ?_)
            exact x_iret E h hf dX9_addCat_72
          · refine lv_iconst (v := 0) E.1 E.2.1 dX9_addCat_55 (by decide) ?_
            exact x_iret E h hf dX9_addCat_56
        · refine lv_iconst (v := 1) E.1 E.2.1 dX9_addCat_44 (by decide) ?_
          refine lv_goto (tgt := 49) E.1 E.2.1 dX9_addCat_45 (by decide) ?_
          refine x_calli E h hl 0 hf (fun r0 Sq0 hr => c_X9_throwsOne__ l D cy s00 _ S 1 1 1 r0 Sq0 hr) m_X9_throwsOne__ rfl rfl kw1729 rfl rfl (Nat.le_of_ble_eq_true rfl) ⟨by decide, by decide⟩ ⟨Nat.zero_le _, Nat.zero_le _⟩ dX9_addCat_49 (fun v85 S86 H locs hf h => ?_)
          refine x_br hf (lv_if_eq (tgt := 57) E.1 E.2.1 dX9_addCat_52 (by decide)) (fun hf => ?_) (fun hf => ?_)
          · refine lv_aload_n E.1 E.2.1 dX9_addCat_57 rfl (lv_at hl 1 rfl) ?_
            refine x_callv E h hl 0 hf (fun r0 hr => c_X9_begins l D cy s00 _ S86  r0 hr) m_X9_begins rfl rfl kw1705 rfl rfl (Nat.le_of_ble_eq_true rfl) ⟨by decide, by decide⟩ ⟨Nat.zero_le _, Nat.zero_le _⟩ dX9_addCat_58 (fun S87 H locs hf h => ?_)
            refine lv_aload_n E.1 E.2.1 dX9_addCat_61 rfl (lv_at hl 1 rfl) ?_
            refine lv_aload_n E.1 E.2.1 dX9_addCat_62 rfl (lv_at hl 1 rfl) ?_
            refine lv_iload_n E.1 E.2.1 dX9_addCat_63 rfl (lv_at hl 2 rfl) ?_
            refine lv_iload_n E.1 E.2.1 dX9_addCat_64 rfl (lv_at hl 3 rfl) ?_
            refine lv_iload_n E.1 E.2.1 dX9_addCat_65 rfl (lv_at hl 4 rfl) ?_
            refine x_calli E h hl 0 hf (fun r0 Sq0 hr => c_X9_enters l D cy s00 _ S87 p0 p1 p2 r0 Sq0 hr) m_X9_enters rfl rfl kw1433 rfl rfl (Nat.le_of_ble_eq_true rfl) ⟨by decide, by decide⟩ ⟨Nat.zero_le _, Nat.zero_le _⟩ dX9_addCat_66 (fun v88 S89 H locs hf h => ?_)
            refine x_calli E h hl 0 hf (fun r0 Sq0 hr => c_X9_remember l D cy s00 _ S89 v88 r0 Sq0 hr) m_X9_remember rfl rfl kw1709 rfl rfl (Nat.le_of_ble_eq_true rfl) ⟨by decide, by decide⟩ ⟨Nat.zero_le _, Nat.zero_le _⟩ dX9_addCat_69 (fun v90 S91 H locs hf h => ?_)
            exact x_iret E h hf dX9_addCat_72
          · refine lv_iconst (v := 0) E.1 E.2.1 dX9_addCat_55 (by decide) ?_
            exact x_iret E h hf dX9_addCat_56
set_option maxHeartbeats 4000000 in
set_option maxRecDepth 100000 in
theorem c_X9_step (l : Launch) (D : va_G) (cy : Nat → ClassId) (s00 : State) (ad : Nat → Nat) (S : XS) (p0 p1 : Int32) (r9 : Int32) (S9 : XS) (hf : f_X9_step S p0 p1 = some (r9, S9)) : XI l yX9_step cX9_step 4 (some .int) 4 D cy s00 shMod ad S [.ref (ad 0), .int p0, .int p1] r9 S9 := by
  refine XI.of (by decide) [(0, .ref (ad 0)), (1, .int p0), (2, .int p1)] rfl (Nat.le_of_ble_eq_true rfl) (fun p e s m args below meth c A ls E h hl => ?_)
  unfold f_X9_step at hf
  refine lv_aload_n E.1 E.2.1 dX9_step_0 rfl (lv_at hl 0 rfl) ?_
  refine lv_iload_n E.1 E.2.1 dX9_step_1 rfl (lv_at hl 1 rfl) ?_
  refine x_callp E h hl 0 hf (fun r0 hr => c_X9_isCat l D cy s00 _ S p0 r0 hr) m_X9_isCat rfl rfl kw1744 rfl rfl (Nat.le_of_ble_eq_true rfl) ⟨by decide, by decide⟩ ⟨Nat.zero_le _, Nat.zero_le _⟩ dX9_step_2 (fun v1 H locs hf h => ?_)
  refine x_br hf (lv_if_eq (tgt := 20) E.1 E.2.1 dX9_step_5 (by decide)) (fun hf => ?_) (fun hf => ?_)
  · refine lv_iconst (v := 0) E.1 E.2.1 dX9_step_20 (by decide) ?_
    refine lv_istore_n (lv' := [(3, .int 0), (0, .ref (ad 0)), (1, .int p0), (2, .int p1)]) E.1 E.2.1 dX9_step_21 rfl hl (by decide) rfl (fun ls hl => ?_)
    refine lv_aload_n E.1 E.2.1 dX9_step_22 rfl (lv_at hl 1 rfl) ?_
    refine lv_iload_n E.1 E.2.1 dX9_step_23 rfl (lv_at hl 0 rfl) ?_
    refine lv_if_ne (tgt := 31) E.1 E.2.1 dX9_step_24 (by decide) (fun c9 => absurd c9 (by decide)) (fun _ => ?_)
    refine lv_iconst (v := 1) E.1 E.2.1 dX9_step_27 (by decide) ?_
    refine lv_goto (tgt := 32) E.1 E.2.1 dX9_step_28 (by decide) ?_
    refine lv_iload_n E.1 E.2.1 dX9_step_32 rfl (lv_at hl 0 rfl) ?_
    refine lv_if_eq (tgt := 49) E.1 E.2.1 dX9_step_33 (by decide) (fun _ => ?_) (fun c9 => absurd c9 (by decide))
    refine lv_iconst (v := 0) E.1 E.2.1 dX9_step_49 (by decide) ?_
    refine x_calli E h hl 0 hf (fun r0 Sq0 hr => c_X9_throwsOne_ l D cy s00 _ S 1 0 r0 Sq0 hr) m_X9_throwsOne_ rfl rfl kw1717 rfl rfl (Nat.le_of_ble_eq_true rfl) ⟨by decide, by decide⟩ ⟨Nat.zero_le _, Nat.zero_le _⟩ dX9_step_50 (fun v2 S3 H locs hf h => ?_)
    refine x_br hf (lv_if_eq (tgt := 58) E.1 E.2.1 dX9_step_53 (by decide)) (fun hf => ?_) (fun hf => ?_)
    · refine lv_aload_n E.1 E.2.1 dX9_step_58 rfl (lv_at hl 1 rfl) ?_
      refine x_callv E h hl 0 hf (fun r0 hr => c_X9_begins l D cy s00 _ S3  r0 hr) m_X9_begins rfl rfl kw1705 rfl rfl (Nat.le_of_ble_eq_true rfl) ⟨by decide, by decide⟩ ⟨Nat.zero_le _, Nat.zero_le _⟩ dX9_step_59 (fun S4 H locs hf h => ?_)
      refine lv_aload_n E.1 E.2.1 dX9_step_62 rfl (lv_at hl 1 rfl) ?_
      refine lv_aload_n E.1 E.2.1 dX9_step_63 rfl (lv_at hl 1 rfl) ?_
      refine lv_iload_n E.1 E.2.1 dX9_step_64 rfl (lv_at hl 2 rfl) ?_
      refine lv_iload_n E.1 E.2.1 dX9_step_65 rfl (lv_at hl 3 rfl) ?_
      refine x_calli E h hl 0 hf (fun r0 Sq0 hr => c_X9_goes l D cy s00 _ S4 p0 p1 r0 Sq0 hr) m_X9_goes rfl rfl kw1474 rfl rfl (Nat.le_of_ble_eq_true rfl) ⟨by decide, by decide⟩ ⟨Nat.zero_le _, Nat.zero_le _⟩ dX9_step_66 (fun v5 S6 H locs hf h => ?_)
      refine x_calli E h hl 0 hf (fun r0 Sq0 hr => c_X9_remember l D cy s00 _ S6 v5 r0 Sq0 hr) m_X9_remember rfl rfl kw1709 rfl rfl (Nat.le_of_ble_eq_true rfl) ⟨by decide, by decide⟩ ⟨Nat.zero_le _, Nat.zero_le _⟩ dX9_step_69 (fun v7 S8 H locs hf h => ?_)
      exact x_iret E h hf dX9_step_72
    · refine lv_iconst (v := 0) E.1 E.2.1 dX9_step_56 (by decide) ?_
      exact x_iret E h hf dX9_step_57
  · refine lv_aload_n E.1 E.2.1 dX9_step_8 rfl (lv_at hl 0 rfl) ?_
    refine lv_iload_n E.1 E.2.1 dX9_step_9 rfl (lv_at hl 2 rfl) ?_
    refine x_callp E h hl 0 hf (fun r0 hr => c_X9_isGutter l D cy s00 _ S p1 r0 hr) m_X9_isGutter rfl rfl kw1748 rfl rfl (Nat.le_of_ble_eq_true rfl) ⟨by decide, by decide⟩ ⟨Nat.zero_le _, Nat.zero_le _⟩ dX9_step_10 (fun v9 H locs hf h => ?_)
    refine x_br hf (lv_if_eq (tgt := 20) E.1 E.2.1 dX9_step_13 (by decide)) (fun hf => ?_) (fun hf => ?_)
    · refine lv_iconst (v := 0) E.1 E.2.1 dX9_step_20 (by decide) ?_
      refine lv_istore_n (lv' := [(3, .int 0), (0, .ref (ad 0)), (1, .int p0), (2, .int p1)]) E.1 E.2.1 dX9_step_21 rfl hl (by decide) rfl (fun ls hl => ?_)
      refine lv_aload_n E.1 E.2.1 dX9_step_22 rfl (lv_at hl 1 rfl) ?_
      refine lv_iload_n E.1 E.2.1 dX9_step_23 rfl (lv_at hl 0 rfl) ?_
      refine lv_if_ne (tgt := 31) E.1 E.2.1 dX9_step_24 (by decide) (fun c9 => absurd c9 (by decide)) (fun _ => ?_)
      refine lv_iconst (v := 1) E.1 E.2.1 dX9_step_27 (by decide) ?_
      refine lv_goto (tgt := 32) E.1 E.2.1 dX9_step_28 (by decide) ?_
      refine lv_iload_n E.1 E.2.1 dX9_step_32 rfl (lv_at hl 0 rfl) ?_
      refine lv_if_eq (tgt := 49) E.1 E.2.1 dX9_step_33 (by decide) (fun _ => ?_) (fun c9 => absurd c9 (by decide))
      refine lv_iconst (v := 0) E.1 E.2.1 dX9_step_49 (by decide) ?_
      refine x_calli E h hl 0 hf (fun r0 Sq0 hr => c_X9_throwsOne_ l D cy s00 _ S 1 0 r0 Sq0 hr) m_X9_throwsOne_ rfl rfl kw1717 rfl rfl (Nat.le_of_ble_eq_true rfl) ⟨by decide, by decide⟩ ⟨Nat.zero_le _, Nat.zero_le _⟩ dX9_step_50 (fun v10 S11 H locs hf h => ?_)
      refine x_br hf (lv_if_eq (tgt := 58) E.1 E.2.1 dX9_step_53 (by decide)) (fun hf => ?_) (fun hf => ?_)
      · refine lv_aload_n E.1 E.2.1 dX9_step_58 rfl (lv_at hl 1 rfl) ?_
        refine x_callv E h hl 0 hf (fun r0 hr => c_X9_begins l D cy s00 _ S11  r0 hr) m_X9_begins rfl rfl kw1705 rfl rfl (Nat.le_of_ble_eq_true rfl) ⟨by decide, by decide⟩ ⟨Nat.zero_le _, Nat.zero_le _⟩ dX9_step_59 (fun S12 H locs hf h => ?_)
        refine lv_aload_n E.1 E.2.1 dX9_step_62 rfl (lv_at hl 1 rfl) ?_
        refine lv_aload_n E.1 E.2.1 dX9_step_63 rfl (lv_at hl 1 rfl) ?_
        refine lv_iload_n E.1 E.2.1 dX9_step_64 rfl (lv_at hl 2 rfl) ?_
        refine lv_iload_n E.1 E.2.1 dX9_step_65 rfl (lv_at hl 3 rfl) ?_
        refine x_calli E h hl 0 hf (fun r0 Sq0 hr => c_X9_goes l D cy s00 _ S12 p0 p1 r0 Sq0 hr) m_X9_goes rfl rfl kw1474 rfl rfl (Nat.le_of_ble_eq_true rfl) ⟨by decide, by decide⟩ ⟨Nat.zero_le _, Nat.zero_le _⟩ dX9_step_66 (fun v13 S14 H locs hf h => ?_)
        refine x_calli E h hl 0 hf (fun r0 Sq0 hr => c_X9_remember l D cy s00 _ S14 v13 r0 Sq0 hr) m_X9_remember rfl rfl kw1709 rfl rfl (Nat.le_of_ble_eq_true rfl) ⟨by decide, by decide⟩ ⟨Nat.zero_le _, Nat.zero_le _⟩ dX9_step_69 (fun v15 S16 H locs hf h => ?_)
        exact x_iret E h hf dX9_step_72
      · refine lv_iconst (v := 0) E.1 E.2.1 dX9_step_56 (by decide) ?_
        exact x_iret E h hf dX9_step_57
    · refine lv_iconst (v := 1) E.1 E.2.1 dX9_step_16 (by decide) ?_
      refine lv_goto (tgt := 21) E.1 E.2.1 dX9_step_17 (by decide) ?_
      refine lv_istore_n (lv' := [(3, .int 1), (0, .ref (ad 0)), (1, .int p0), (2, .int p1)]) E.1 E.2.1 dX9_step_21 rfl hl (by decide) rfl (fun ls hl => ?_)
      refine lv_aload_n E.1 E.2.1 dX9_step_22 rfl (lv_at hl 1 rfl) ?_
      refine lv_iload_n E.1 E.2.1 dX9_step_23 rfl (lv_at hl 0 rfl) ?_
      refine lv_if_ne (tgt := 31) E.1 E.2.1 dX9_step_24 (by decide) (fun _ => ?_) (fun c9 => absurd c9 (by decide))
      refine lv_iconst (v := 0) E.1 E.2.1 dX9_step_31 (by decide) ?_
      refine lv_iload_n E.1 E.2.1 dX9_step_32 rfl (lv_at hl 0 rfl) ?_
      refine lv_if_eq (tgt := 49) E.1 E.2.1 dX9_step_33 (by decide) (fun c9 => absurd c9 (by decide)) (fun _ => ?_)
      refine lv_aload_n E.1 E.2.1 dX9_step_36 rfl (lv_at hl 1 rfl) ?_
      refine lv_iload_n E.1 E.2.1 dX9_step_37 rfl (lv_at hl 2 rfl) ?_
      refine lv_iload_n E.1 E.2.1 dX9_step_38 rfl (lv_at hl 3 rfl) ?_
      refine x_callp E h hl 0 hf (fun r0 hr => c_X9_whyStays l D cy s00 _ S p0 p1 r0 hr) m_X9_whyStays rfl rfl kw1449 rfl rfl (Nat.le_of_ble_eq_true rfl) ⟨by decide, by decide⟩ ⟨Nat.zero_le _, Nat.zero_le _⟩ dX9_step_39 (fun v17 H locs hf h => ?_)
      refine x_br hf (lv_if_eq (tgt := 49) E.1 E.2.1 dX9_step_42 (by decide)) (fun hf => ?_) (fun hf => ?_)
      · refine lv_iconst (v := 0) E.1 E.2.1 dX9_step_49 (by decide) ?_
        refine x_calli E h hl 0 hf (fun r0 Sq0 hr => c_X9_throwsOne_ l D cy s00 _ S 0 0 r0 Sq0 hr) m_X9_throwsOne_ rfl rfl kw1717 rfl rfl (Nat.le_of_ble_eq_true rfl) ⟨by decide, by decide⟩ ⟨Nat.zero_le _, Nat.zero_le _⟩ dX9_step_50 (fun v18 S19 H locs hf h => ?_)
        refine x_br hf (lv_if_eq (tgt := 58) E.1 E.2.1 dX9_step_53 (by decide)) (fun hf => ?_) (fun hf => ?_)
        · refine lv_aload_n E.1 E.2.1 dX9_step_58 rfl (lv_at hl 1 rfl) ?_
          refine x_callv E h hl 0 hf (fun r0 hr => c_X9_begins l D cy s00 _ S19  r0 hr) m_X9_begins rfl rfl kw1705 rfl rfl (Nat.le_of_ble_eq_true rfl) ⟨by decide, by decide⟩ ⟨Nat.zero_le _, Nat.zero_le _⟩ dX9_step_59 (fun S20 H locs hf h => ?_)
          refine lv_aload_n E.1 E.2.1 dX9_step_62 rfl (lv_at hl 1 rfl) ?_
          refine lv_aload_n E.1 E.2.1 dX9_step_63 rfl (lv_at hl 1 rfl) ?_
          refine lv_iload_n E.1 E.2.1 dX9_step_64 rfl (lv_at hl 2 rfl) ?_
          refine lv_iload_n E.1 E.2.1 dX9_step_65 rfl (lv_at hl 3 rfl) ?_
          refine x_calli E h hl 0 hf (fun r0 Sq0 hr => c_X9_goes l D cy s00 _ S20 p0 p1 r0 Sq0 hr) m_X9_goes rfl rfl kw1474 rfl rfl (Nat.le_of_ble_eq_true rfl) ⟨by decide, by decide⟩ ⟨Nat.zero_le _, Nat.zero_le _⟩ dX9_step_66 (fun v21 S22 H locs hf h => ?_)
          refine x_calli E h hl 0 hf (fun r0 Sq0 hr => c_X9_remember l D cy s00 _ S22 v21 r0 Sq0 hr) m_X9_remember rfl rfl kw1709 rfl rfl (Nat.le_of_ble_eq_true rfl) ⟨by decide, by decide⟩ ⟨Nat.zero_le _, Nat.zero_le _⟩ dX9_step_69 (fun v23 S24 H locs hf h => ?_)
          exact x_iret E h hf dX9_step_72
        · refine lv_iconst (v := 0) E.1 E.2.1 dX9_step_56 (by decide) ?_
          exact x_iret E h hf dX9_step_57
      · refine lv_iconst (v := 1) E.1 E.2.1 dX9_step_45 (by decide) ?_
        refine lv_goto (tgt := 50) E.1 E.2.1 dX9_step_46 (by decide) ?_
        refine x_calli E h hl 0 hf (fun r0 Sq0 hr => c_X9_throwsOne_ l D cy s00 _ S 0 1 r0 Sq0 hr) m_X9_throwsOne_ rfl rfl kw1717 rfl rfl (Nat.le_of_ble_eq_true rfl) ⟨by decide, by decide⟩ ⟨Nat.zero_le _, Nat.zero_le _⟩ dX9_step_50 (fun v25 S26 H locs hf h => ?_)
        refine x_br hf (lv_if_eq (tgt := 58) E.1 E.2.1 dX9_step_53 (by decide)) (fun hf => ?_) (fun hf => ?_)
        · refine lv_aload_n E.1 E.2.1 dX9_step_58 rfl (lv_at hl 1 rfl) ?_
          refine x_callv E h hl 0 hf (fun r0 hr => c_X9_begins l D cy s00 _ S26  r0 hr) m_X9_begins rfl rfl kw1705 rfl rfl (Nat.le_of_ble_eq_true rfl) ⟨by decide, by decide⟩ ⟨Nat.zero_le _, Nat.zero_le _⟩ dX9_step_59 (fun S27 H locs hf h => ?_)
          refine lv_aload_n E.1 E.2.1 dX9_step_62 rfl (lv_at hl 1 rfl) ?_
          refine lv_aload_n E.1 E.2.1 dX9_step_63 rfl (lv_at hl 1 rfl) ?_
          refine lv_iload_n E.1 E.2.1 dX9_step_64 rfl (lv_at hl 2 rfl) ?_
          refine lv_iload_n E.1 E.2.1 dX9_step_65 rfl (lv_at hl 3 rfl) ?_
          refine x_calli E h hl 0 hf (fun r0 Sq0 hr => c_X9_goes l D cy s00 _ S27 p0 p1 r0 Sq0 hr) m_X9_goes rfl rfl kw1474 rfl rfl (Nat.le_of_ble_eq_true rfl) ⟨by decide, by decide⟩ ⟨Nat.zero_le _, Nat.zero_le _⟩ dX9_step_66 (fun v28 S29 H locs hf h => ?_)
          refine x_calli E h hl 0 hf (fun r0 Sq0 hr => c_X9_remember l D cy s00 _ S29 v28 r0 Sq0 hr) m_X9_remember rfl rfl kw1709 rfl rfl (Nat.le_of_ble_eq_true rfl) ⟨by decide, by decide⟩ ⟨Nat.zero_le _, Nat.zero_le _⟩ dX9_step_69 (fun v30 S31 H locs hf h => ?_)
          exact x_iret E h hf dX9_step_72
        · refine lv_iconst (v := 0) E.1 E.2.1 dX9_step_56 (by decide) ?_
          exact x_iret E h hf dX9_step_57
set_option maxHeartbeats 4000000 in
set_option maxRecDepth 100000 in
theorem c_X9_claim (l : Launch) (D : va_G) (cy : Nat → ClassId) (s00 : State) (ad : Nat → Nat) (S : XS) (p0 : Int32) (r9 : Int32) (S9 : XS) (hf : f_X9_claim S p0 = some (r9, S9)) : XI l yX9_claim cX9_claim 3 (some .int) 3 D cy s00 shMod ad S [.ref (ad 0), .int p0] r9 S9 := by
  refine XI.of (by decide) [(0, .ref (ad 0)), (1, .int p0)] rfl (Nat.le_of_ble_eq_true rfl) (fun p e s m args below meth c A ls E h hl => ?_)
  unfold f_X9_claim at hf
  refine lv_aload_n E.1 E.2.1 dX9_claim_0 rfl (lv_at hl 0 rfl) ?_
  refine lv_iload_n E.1 E.2.1 dX9_claim_1 rfl (lv_at hl 1 rfl) ?_
  refine x_callp E h hl 0 hf (fun r0 hr => c_X9_isCat l D cy s00 _ S p0 r0 hr) m_X9_isCat rfl rfl kw1744 rfl rfl (Nat.le_of_ble_eq_true rfl) ⟨by decide, by decide⟩ ⟨Nat.zero_le _, Nat.zero_le _⟩ dX9_claim_2 (fun v1 H locs hf h => ?_)
  refine lv_istore_n (lv' := [(2, .int v1), (0, .ref (ad 0)), (1, .int p0)]) E.1 E.2.1 dX9_claim_5 rfl hl (by decide) rfl (fun ls hl => ?_)
  refine lv_aload_n E.1 E.2.1 dX9_claim_6 rfl (lv_at hl 1 rfl) ?_
  refine lv_iload_n E.1 E.2.1 dX9_claim_7 rfl (lv_at hl 0 rfl) ?_
  refine x_brn hf (lv_if_ne (tgt := 15) E.1 E.2.1 dX9_claim_8 (by decide)) (fun hf => ?_) (fun hf => ?_)
  · refine lv_iconst (v := 0) E.1 E.2.1 dX9_claim_15 (by decide) ?_
    refine lv_iload_n E.1 E.2.1 dX9_claim_16 rfl (lv_at hl 0 rfl) ?_
    refine x_br hf (lv_if_eq (tgt := 32) E.1 E.2.1 dX9_claim_17 (by decide)) (fun hf => ?_) (fun hf => ?_)
    · refine lv_iconst (v := 0) E.1 E.2.1 dX9_claim_32 (by decide) ?_
      refine x_calli E h hl 0 hf (fun r0 Sq0 hr => c_X9_throwsOne_ l D cy s00 _ S 0 0 r0 Sq0 hr) m_X9_throwsOne_ rfl rfl kw1717 rfl rfl (Nat.le_of_ble_eq_true rfl) ⟨by decide, by decide⟩ ⟨Nat.zero_le _, Nat.zero_le _⟩ dX9_claim_33 (fun v2 S3 H locs hf h => ?_)
      refine x_br hf (lv_if_eq (tgt := 41) E.1 E.2.1 dX9_claim_36 (by decide)) (fun hf => ?_) (fun hf => ?_)
      · refine lv_aload_n E.1 E.2.1 dX9_claim_41 rfl (lv_at hl 1 rfl) ?_
        refine x_callv E h hl 0 hf (fun r0 hr => c_X9_begins l D cy s00 _ S3  r0 hr) m_X9_begins rfl rfl kw1705 rfl rfl (Nat.le_of_ble_eq_true rfl) ⟨by decide, by decide⟩ ⟨Nat.zero_le _, Nat.zero_le _⟩ dX9_claim_42 (fun S4 H locs hf h => ?_)
        refine lv_aload_n E.1 E.2.1 dX9_claim_45 rfl (lv_at hl 1 rfl) ?_
        refine lv_aload_n E.1 E.2.1 dX9_claim_46 rfl (lv_at hl 1 rfl) ?_
        refine lv_iload_n E.1 E.2.1 dX9_claim_47 rfl (lv_at hl 2 rfl) ?_
        refine x_calli E h hl 0 hf (fun r0 Sq0 hr => c_X9_claims l D cy s00 _ S4 p0 r0 Sq0 hr) m_X9_claims rfl rfl kw1490 rfl rfl (Nat.le_of_ble_eq_true rfl) ⟨by decide, by decide⟩ ⟨Nat.zero_le _, Nat.zero_le _⟩ dX9_claim_48 (fun v5 S6 H locs hf h => ?_)
        refine x_calli E h hl 0 hf (fun r0 Sq0 hr => c_X9_remember l D cy s00 _ S6 v5 r0 Sq0 hr) m_X9_remember rfl rfl kw1709 rfl rfl (Nat.le_of_ble_eq_true rfl) ⟨by decide, by decide⟩ ⟨Nat.zero_le _, Nat.zero_le _⟩ dX9_claim_51 (fun v7 S8 H locs hf h => ?_)
        exact x_iret E h hf dX9_claim_54
      · refine lv_iconst (v := 0) E.1 E.2.1 dX9_claim_39 (by decide) ?_
        exact x_iret E h hf dX9_claim_40
    · refine lv_aload_n E.1 E.2.1 dX9_claim_20 rfl (lv_at hl 1 rfl) ?_
      refine lv_iload_n E.1 E.2.1 dX9_claim_21 rfl (lv_at hl 2 rfl) ?_
      refine x_callp E h hl 0 hf (fun r0 hr => c_X9_whyLeaves l D cy s00 _ S p0 r0 hr) m_X9_whyLeaves rfl rfl kw1482 rfl rfl (Nat.le_of_ble_eq_true rfl) ⟨by decide, by decide⟩ ⟨Nat.zero_le _, Nat.zero_le _⟩ dX9_claim_22 (fun v9 H locs hf h => ?_)
      refine x_br hf (lv_if_eq (tgt := 32) E.1 E.2.1 dX9_claim_25 (by decide)) (fun hf => ?_) (fun hf => ?_)
      · refine lv_iconst (v := 0) E.1 E.2.1 dX9_claim_32 (by decide) ?_
        refine x_calli E h hl 0 hf (fun r0 Sq0 hr => c_X9_throwsOne_ l D cy s00 _ S 0 0 r0 Sq0 hr) m_X9_throwsOne_ rfl rfl kw1717 rfl rfl (Nat.le_of_ble_eq_true rfl) ⟨by decide, by decide⟩ ⟨Nat.zero_le _, Nat.zero_le _⟩ dX9_claim_33 (fun v10 S11 H locs hf h => ?_)
        refine x_br hf (lv_if_eq (tgt := 41) E.1 E.2.1 dX9_claim_36 (by decide)) (fun hf => ?_) (fun hf => ?_)
        · refine lv_aload_n E.1 E.2.1 dX9_claim_41 rfl (lv_at hl 1 rfl) ?_
          refine x_callv E h hl 0 hf (fun r0 hr => c_X9_begins l D cy s00 _ S11  r0 hr) m_X9_begins rfl rfl kw1705 rfl rfl (Nat.le_of_ble_eq_true rfl) ⟨by decide, by decide⟩ ⟨Nat.zero_le _, Nat.zero_le _⟩ dX9_claim_42 (fun S12 H locs hf h => ?_)
          refine lv_aload_n E.1 E.2.1 dX9_claim_45 rfl (lv_at hl 1 rfl) ?_
          refine lv_aload_n E.1 E.2.1 dX9_claim_46 rfl (lv_at hl 1 rfl) ?_
          refine lv_iload_n E.1 E.2.1 dX9_claim_47 rfl (lv_at hl 2 rfl) ?_
          refine x_calli E h hl 0 hf (fun r0 Sq0 hr => c_X9_claims l D cy s00 _ S12 p0 r0 Sq0 hr) m_X9_claims rfl rfl kw1490 rfl rfl (Nat.le_of_ble_eq_true rfl) ⟨by decide, by decide⟩ ⟨Nat.zero_le _, Nat.zero_le _⟩ dX9_claim_48 (fun v13 S14 H locs hf h => ?_)
          refine x_calli E h hl 0 hf (fun r0 Sq0 hr => c_X9_remember l D cy s00 _ S14 v13 r0 Sq0 hr) m_X9_remember rfl rfl kw1709 rfl rfl (Nat.le_of_ble_eq_true rfl) ⟨by decide, by decide⟩ ⟨Nat.zero_le _, Nat.zero_le _⟩ dX9_claim_51 (fun v15 S16 H locs hf h => ?_)
          exact x_iret E h hf dX9_claim_54
        · refine lv_iconst (v := 0) E.1 E.2.1 dX9_claim_39 (by decide) ?_
          exact x_iret E h hf dX9_claim_40
      · refine lv_iconst (v := 1) E.1 E.2.1 dX9_claim_28 (by decide) ?_
        refine lv_goto (tgt := 33) E.1 E.2.1 dX9_claim_29 (by decide) ?_
        refine x_calli E h hl 0 hf (fun r0 Sq0 hr => c_X9_throwsOne_ l D cy s00 _ S 0 1 r0 Sq0 hr) m_X9_throwsOne_ rfl rfl kw1717 rfl rfl (Nat.le_of_ble_eq_true rfl) ⟨by decide, by decide⟩ ⟨Nat.zero_le _, Nat.zero_le _⟩ dX9_claim_33 (fun v17 S18 H locs hf h => ?_)
        refine x_br hf (lv_if_eq (tgt := 41) E.1 E.2.1 dX9_claim_36 (by decide)) (fun hf => ?_) (fun hf => ?_)
        · refine lv_aload_n E.1 E.2.1 dX9_claim_41 rfl (lv_at hl 1 rfl) ?_
          refine x_callv E h hl 0 hf (fun r0 hr => c_X9_begins l D cy s00 _ S18  r0 hr) m_X9_begins rfl rfl kw1705 rfl rfl (Nat.le_of_ble_eq_true rfl) ⟨by decide, by decide⟩ ⟨Nat.zero_le _, Nat.zero_le _⟩ dX9_claim_42 (fun S19 H locs hf h => ?_)
          refine lv_aload_n E.1 E.2.1 dX9_claim_45 rfl (lv_at hl 1 rfl) ?_
          refine lv_aload_n E.1 E.2.1 dX9_claim_46 rfl (lv_at hl 1 rfl) ?_
          refine lv_iload_n E.1 E.2.1 dX9_claim_47 rfl (lv_at hl 2 rfl) ?_
          refine x_calli E h hl 0 hf (fun r0 Sq0 hr => c_X9_claims l D cy s00 _ S19 p0 r0 Sq0 hr) m_X9_claims rfl rfl kw1490 rfl rfl (Nat.le_of_ble_eq_true rfl) ⟨by decide, by decide⟩ ⟨Nat.zero_le _, Nat.zero_le _⟩ dX9_claim_48 (fun v20 S21 H locs hf h => ?_)
          refine x_calli E h hl 0 hf (fun r0 Sq0 hr => c_X9_remember l D cy s00 _ S21 v20 r0 Sq0 hr) m_X9_remember rfl rfl kw1709 rfl rfl (Nat.le_of_ble_eq_true rfl) ⟨by decide, by decide⟩ ⟨Nat.zero_le _, Nat.zero_le _⟩ dX9_claim_51 (fun v22 S23 H locs hf h => ?_)
          exact x_iret E h hf dX9_claim_54
        · refine lv_iconst (v := 0) E.1 E.2.1 dX9_claim_39 (by decide) ?_
          exact x_iret E h hf dX9_claim_40
  · refine lv_iconst (v := 1) E.1 E.2.1 dX9_claim_11 (by decide) ?_
    refine lv_goto (tgt := 16) E.1 E.2.1 dX9_claim_12 (by decide) ?_
    refine lv_iload_n E.1 E.2.1 dX9_claim_16 rfl (lv_at hl 0 rfl) ?_
    refine x_br hf (lv_if_eq (tgt := 32) E.1 E.2.1 dX9_claim_17 (by decide)) (fun hf => ?_) (fun hf => ?_)
    · refine lv_iconst (v := 0) E.1 E.2.1 dX9_claim_32 (by decide) ?_
      refine x_calli E h hl 0 hf (fun r0 Sq0 hr => c_X9_throwsOne_ l D cy s00 _ S 1 0 r0 Sq0 hr) m_X9_throwsOne_ rfl rfl kw1717 rfl rfl (Nat.le_of_ble_eq_true rfl) ⟨by decide, by decide⟩ ⟨Nat.zero_le _, Nat.zero_le _⟩ dX9_claim_33 (fun v24 S25 H locs hf h => ?_)
      refine x_br hf (lv_if_eq (tgt := 41) E.1 E.2.1 dX9_claim_36 (by decide)) (fun hf => ?_) (fun hf => ?_)
      · refine lv_aload_n E.1 E.2.1 dX9_claim_41 rfl (lv_at hl 1 rfl) ?_
        refine x_callv E h hl 0 hf (fun r0 hr => c_X9_begins l D cy s00 _ S25  r0 hr) m_X9_begins rfl rfl kw1705 rfl rfl (Nat.le_of_ble_eq_true rfl) ⟨by decide, by decide⟩ ⟨Nat.zero_le _, Nat.zero_le _⟩ dX9_claim_42 (fun S26 H locs hf h => ?_)
        refine lv_aload_n E.1 E.2.1 dX9_claim_45 rfl (lv_at hl 1 rfl) ?_
        refine lv_aload_n E.1 E.2.1 dX9_claim_46 rfl (lv_at hl 1 rfl) ?_
        refine lv_iload_n E.1 E.2.1 dX9_claim_47 rfl (lv_at hl 2 rfl) ?_
        refine x_calli E h hl 0 hf (fun r0 Sq0 hr => c_X9_claims l D cy s00 _ S26 p0 r0 Sq0 hr) m_X9_claims rfl rfl kw1490 rfl rfl (Nat.le_of_ble_eq_true rfl) ⟨by decide, by decide⟩ ⟨Nat.zero_le _, Nat.zero_le _⟩ dX9_claim_48 (fun v27 S28 H locs hf h => ?_)
        refine x_calli E h hl 0 hf (fun r0 Sq0 hr => c_X9_remember l D cy s00 _ S28 v27 r0 Sq0 hr) m_X9_remember rfl rfl kw1709 rfl rfl (Nat.le_of_ble_eq_true rfl) ⟨by decide, by decide⟩ ⟨Nat.zero_le _, Nat.zero_le _⟩ dX9_claim_51 (fun v29 S30 H locs hf h => ?_)
        exact x_iret E h hf dX9_claim_54
      · refine lv_iconst (v := 0) E.1 E.2.1 dX9_claim_39 (by decide) ?_
        exact x_iret E h hf dX9_claim_40
    · refine lv_aload_n E.1 E.2.1 dX9_claim_20 rfl (lv_at hl 1 rfl) ?_
      refine lv_iload_n E.1 E.2.1 dX9_claim_21 rfl (lv_at hl 2 rfl) ?_
      refine x_callp E h hl 0 hf (fun r0 hr => c_X9_whyLeaves l D cy s00 _ S p0 r0 hr) m_X9_whyLeaves rfl rfl kw1482 rfl rfl (Nat.le_of_ble_eq_true rfl) ⟨by decide, by decide⟩ ⟨Nat.zero_le _, Nat.zero_le _⟩ dX9_claim_22 (fun v31 H locs hf h => ?_)
      refine x_br hf (lv_if_eq (tgt := 32) E.1 E.2.1 dX9_claim_25 (by decide)) (fun hf => ?_) (fun hf => ?_)
      · refine lv_iconst (v := 0) E.1 E.2.1 dX9_claim_32 (by decide) ?_
        refine x_calli E h hl 0 hf (fun r0 Sq0 hr => c_X9_throwsOne_ l D cy s00 _ S 1 0 r0 Sq0 hr) m_X9_throwsOne_ rfl rfl kw1717 rfl rfl (Nat.le_of_ble_eq_true rfl) ⟨by decide, by decide⟩ ⟨Nat.zero_le _, Nat.zero_le _⟩ dX9_claim_33 (fun v32 S33 H locs hf h => ?_)
        refine x_br hf (lv_if_eq (tgt := 41) E.1 E.2.1 dX9_claim_36 (by decide)) (fun hf => ?_) (fun hf => ?_)
        · refine lv_aload_n E.1 E.2.1 dX9_claim_41 rfl (lv_at hl 1 rfl) ?_
          refine x_callv E h hl 0 hf (fun r0 hr => c_X9_begins l D cy s00 _ S33  r0 hr) m_X9_begins rfl rfl kw1705 rfl rfl (Nat.le_of_ble_eq_true rfl) ⟨by decide, by decide⟩ ⟨Nat.zero_le _, Nat.zero_le _⟩ dX9_claim_42 (fun S34 H locs hf h => ?_)
          refine lv_aload_n E.1 E.2.1 dX9_claim_45 rfl (lv_at hl 1 rfl) ?_
          refine lv_aload_n E.1 E.2.1 dX9_claim_46 rfl (lv_at hl 1 rfl) ?_
          refine lv_iload_n E.1 E.2.1 dX9_claim_47 rfl (lv_at hl 2 rfl) ?_
          refine x_calli E h hl 0 hf (fun r0 Sq0 hr => c_X9_claims l D cy s00 _ S34 p0 r0 Sq0 hr) m_X9_claims rfl rfl kw1490 rfl rfl (Nat.le_of_ble_eq_true rfl) ⟨by decide, by decide⟩ ⟨Nat.zero_le _, Nat.zero_le _⟩ dX9_claim_48 (fun v35 S36 H locs hf h => ?_)
          refine x_calli E h hl 0 hf (fun r0 Sq0 hr => c_X9_remember l D cy s00 _ S36 v35 r0 Sq0 hr) m_X9_remember rfl rfl kw1709 rfl rfl (Nat.le_of_ble_eq_true rfl) ⟨by decide, by decide⟩ ⟨Nat.zero_le _, Nat.zero_le _⟩ dX9_claim_51 (fun v37 S38 H locs hf h => ?_)
          exact x_iret E h hf dX9_claim_54
        · refine lv_iconst (v := 0) E.1 E.2.1 dX9_claim_39 (by decide) ?_
          exact x_iret E h hf dX9_claim_40
      · refine lv_iconst (v := 1) E.1 E.2.1 dX9_claim_28 (by decide) ?_
        refine lv_goto (tgt := 33) E.1 E.2.1 dX9_claim_29 (by decide) ?_
        refine x_calli E h hl 0 hf (fun r0 Sq0 hr => c_X9_throwsOne_ l D cy s00 _ S 1 1 r0 Sq0 hr) m_X9_throwsOne_ rfl rfl kw1717 rfl rfl (Nat.le_of_ble_eq_true rfl) ⟨by decide, by decide⟩ ⟨Nat.zero_le _, Nat.zero_le _⟩ dX9_claim_33 (fun v39 S40 H locs hf h => ?_)
        refine x_br hf (lv_if_eq (tgt := 41) E.1 E.2.1 dX9_claim_36 (by decide)) (fun hf => ?_) (fun hf => ?_)
        · refine lv_aload_n E.1 E.2.1 dX9_claim_41 rfl (lv_at hl 1 rfl) ?_
          refine x_callv E h hl 0 hf (fun r0 hr => c_X9_begins l D cy s00 _ S40  r0 hr) m_X9_begins rfl rfl kw1705 rfl rfl (Nat.le_of_ble_eq_true rfl) ⟨by decide, by decide⟩ ⟨Nat.zero_le _, Nat.zero_le _⟩ dX9_claim_42 (fun S41 H locs hf h => ?_)
          refine lv_aload_n E.1 E.2.1 dX9_claim_45 rfl (lv_at hl 1 rfl) ?_
          refine lv_aload_n E.1 E.2.1 dX9_claim_46 rfl (lv_at hl 1 rfl) ?_
          refine lv_iload_n E.1 E.2.1 dX9_claim_47 rfl (lv_at hl 2 rfl) ?_
          refine x_calli E h hl 0 hf (fun r0 Sq0 hr => c_X9_claims l D cy s00 _ S41 p0 r0 Sq0 hr) m_X9_claims rfl rfl kw1490 rfl rfl (Nat.le_of_ble_eq_true rfl) ⟨by decide, by decide⟩ ⟨Nat.zero_le _, Nat.zero_le _⟩ dX9_claim_48 (fun v42 S43 H locs hf h => ?_)
          refine x_calli E h hl 0 hf (fun r0 Sq0 hr => c_X9_remember l D cy s00 _ S43 v42 r0 Sq0 hr) m_X9_remember rfl rfl kw1709 rfl rfl (Nat.le_of_ble_eq_true rfl) ⟨by decide, by decide⟩ ⟨Nat.zero_le _, Nat.zero_le _⟩ dX9_claim_51 (fun v44 S45 H locs hf h => ?_)
          exact x_iret E h hf dX9_claim_54
        · refine lv_iconst (v := 0) E.1 E.2.1 dX9_claim_39 (by decide) ?_
          exact x_iret E h hf dX9_claim_40
set_option maxHeartbeats 4000000 in
set_option maxRecDepth 100000 in
theorem c_X9_abandon (l : Launch) (D : va_G) (cy : Nat → ClassId) (s00 : State) (ad : Nat → Nat) (S : XS) (p0 : Int32) (r9 : Int32) (S9 : XS) (hf : f_X9_abandon S p0 = some (r9, S9)) : XI l yX9_abandon cX9_abandon 3 (some .int) 2 D cy s00 shMod ad S [.ref (ad 0), .int p0] r9 S9 := by
  refine XI.of (by decide) [(0, .ref (ad 0)), (1, .int p0)] rfl (Nat.le_of_ble_eq_true rfl) (fun p e s m args below meth c A ls E h hl => ?_)
  unfold f_X9_abandon at hf
  refine lv_aload_n E.1 E.2.1 dX9_abandon_0 rfl (lv_at hl 0 rfl) ?_
  refine lv_iload_n E.1 E.2.1 dX9_abandon_1 rfl (lv_at hl 1 rfl) ?_
  refine x_callp E h hl 0 hf (fun r0 hr => c_X9_isChimney l D cy s00 _ S p0 r0 hr) m_X9_isChimney rfl rfl kw1725 rfl rfl (Nat.le_of_ble_eq_true rfl) ⟨by decide, by decide⟩ ⟨Nat.zero_le _, Nat.zero_le _⟩ dX9_abandon_2 (fun v1 H locs hf h => ?_)
  refine lv_istore_n (lv' := [(2, .int v1), (0, .ref (ad 0)), (1, .int p0)]) E.1 E.2.1 dX9_abandon_5 rfl hl (by decide) rfl (fun ls hl => ?_)
  refine lv_aload_n E.1 E.2.1 dX9_abandon_6 rfl (lv_at hl 1 rfl) ?_
  refine lv_iload_n E.1 E.2.1 dX9_abandon_7 rfl (lv_at hl 0 rfl) ?_
  refine x_brn hf (lv_if_ne (tgt := 15) E.1 E.2.1 dX9_abandon_8 (by decide)) (fun hf => ?_) (fun hf => ?_)
  · refine lv_iconst (v := 0) E.1 E.2.1 dX9_abandon_15 (by decide) ?_
    refine lv_iload_n E.1 E.2.1 dX9_abandon_16 rfl (lv_at hl 0 rfl) ?_
    refine x_br hf (lv_if_eq (tgt := 33) E.1 E.2.1 dX9_abandon_17 (by decide)) (fun hf => ?_) (fun hf => ?_)
    · refine lv_iconst (v := 0) E.1 E.2.1 dX9_abandon_33 (by decide) ?_
      refine x_calli E h hl 0 hf (fun r0 Sq0 hr => c_X9_throwsOne_ l D cy s00 _ S 0 0 r0 Sq0 hr) m_X9_throwsOne_ rfl rfl kw1717 rfl rfl (Nat.le_of_ble_eq_true rfl) ⟨by decide, by decide⟩ ⟨Nat.zero_le _, Nat.zero_le _⟩ dX9_abandon_34 (fun v2 S3 H locs hf h => ?_)
      refine x_br hf (lv_if_eq (tgt := 42) E.1 E.2.1 dX9_abandon_37 (by decide)) (fun hf => ?_) (fun hf => ?_)
      · refine lv_aload_n E.1 E.2.1 dX9_abandon_42 rfl (lv_at hl 1 rfl) ?_
        refine x_callv E h hl 0 hf (fun r0 hr => c_X9_begins l D cy s00 _ S3  r0 hr) m_X9_begins rfl rfl kw1705 rfl rfl (Nat.le_of_ble_eq_true rfl) ⟨by decide, by decide⟩ ⟨Nat.zero_le _, Nat.zero_le _⟩ dX9_abandon_43 (fun S4 H locs hf h => ?_)
        refine lv_aload_n E.1 E.2.1 dX9_abandon_46 rfl (lv_at hl 1 rfl) ?_
        refine lv_aload_n E.1 E.2.1 dX9_abandon_47 rfl (lv_at hl 1 rfl) ?_
        refine lv_iload_n E.1 E.2.1 dX9_abandon_48 rfl (lv_at hl 2 rfl) ?_
        refine x_calli E h hl 0 hf (fun r0 Sq0 hr => c_X9_leaves l D cy s00 _ S4 p0 r0 Sq0 hr) m_X9_leaves rfl rfl kw1498 rfl rfl (Nat.le_of_ble_eq_true rfl) ⟨by decide, by decide⟩ ⟨Nat.zero_le _, Nat.zero_le _⟩ dX9_abandon_49 (fun v5 S6 H locs hf h => ?_)
        refine x_calli E h hl 0 hf (fun r0 Sq0 hr => c_X9_remember l D cy s00 _ S6 v5 r0 Sq0 hr) m_X9_remember rfl rfl kw1709 rfl rfl (Nat.le_of_ble_eq_true rfl) ⟨by decide, by decide⟩ ⟨Nat.zero_le _, Nat.zero_le _⟩ dX9_abandon_52 (fun v7 S8 H locs hf h => ?_)
        exact x_iret E h hf dX9_abandon_55
      · refine lv_iconst (v := 0) E.1 E.2.1 dX9_abandon_40 (by decide) ?_
        exact x_iret E h hf dX9_abandon_41
    · refine lv_aload_n E.1 E.2.1 dX9_abandon_20 rfl (lv_at hl 1 rfl) ?_
      refine lv_iload_n E.1 E.2.1 dX9_abandon_21 rfl (lv_at hl 2 rfl) ?_
      refine x_callp E h hl 0 hf (fun r0 hr => c_X9_owner l D cy s00 _ S p0 r0 hr) m_X9_owner rfl rfl kw1465 rfl rfl (Nat.le_of_ble_eq_true rfl) ⟨by decide, by decide⟩ ⟨Nat.zero_le _, Nat.zero_le _⟩ dX9_abandon_22 (fun v9 H locs hf h => ?_)
      refine lv_iconst (v := (-1)) E.1 E.2.1 dX9_abandon_25 (by decide) ?_
      refine x_brn hf (lv_icmp_ne (tgt := 33) E.1 E.2.1 dX9_abandon_26 (by decide)) (fun hf => ?_) (fun hf => ?_)
      · refine lv_iconst (v := 0) E.1 E.2.1 dX9_abandon_33 (by decide) ?_
        refine x_calli E h hl 0 hf (fun r0 Sq0 hr => c_X9_throwsOne_ l D cy s00 _ S 0 0 r0 Sq0 hr) m_X9_throwsOne_ rfl rfl kw1717 rfl rfl (Nat.le_of_ble_eq_true rfl) ⟨by decide, by decide⟩ ⟨Nat.zero_le _, Nat.zero_le _⟩ dX9_abandon_34 (fun v10 S11 H locs hf h => ?_)
        refine x_br hf (lv_if_eq (tgt := 42) E.1 E.2.1 dX9_abandon_37 (by decide)) (fun hf => ?_) (fun hf => ?_)
        · refine lv_aload_n E.1 E.2.1 dX9_abandon_42 rfl (lv_at hl 1 rfl) ?_
          refine x_callv E h hl 0 hf (fun r0 hr => c_X9_begins l D cy s00 _ S11  r0 hr) m_X9_begins rfl rfl kw1705 rfl rfl (Nat.le_of_ble_eq_true rfl) ⟨by decide, by decide⟩ ⟨Nat.zero_le _, Nat.zero_le _⟩ dX9_abandon_43 (fun S12 H locs hf h => ?_)
          refine lv_aload_n E.1 E.2.1 dX9_abandon_46 rfl (lv_at hl 1 rfl) ?_
          refine lv_aload_n E.1 E.2.1 dX9_abandon_47 rfl (lv_at hl 1 rfl) ?_
          refine lv_iload_n E.1 E.2.1 dX9_abandon_48 rfl (lv_at hl 2 rfl) ?_
          refine x_calli E h hl 0 hf (fun r0 Sq0 hr => c_X9_leaves l D cy s00 _ S12 p0 r0 Sq0 hr) m_X9_leaves rfl rfl kw1498 rfl rfl (Nat.le_of_ble_eq_true rfl) ⟨by decide, by decide⟩ ⟨Nat.zero_le _, Nat.zero_le _⟩ dX9_abandon_49 (fun v13 S14 H locs hf h => ?_)
          refine x_calli E h hl 0 hf (fun r0 Sq0 hr => c_X9_remember l D cy s00 _ S14 v13 r0 Sq0 hr) m_X9_remember rfl rfl kw1709 rfl rfl (Nat.le_of_ble_eq_true rfl) ⟨by decide, by decide⟩ ⟨Nat.zero_le _, Nat.zero_le _⟩ dX9_abandon_52 (fun v15 S16 H locs hf h => ?_)
          exact x_iret E h hf dX9_abandon_55
        · refine lv_iconst (v := 0) E.1 E.2.1 dX9_abandon_40 (by decide) ?_
          exact x_iret E h hf dX9_abandon_41
      · refine lv_iconst (v := 1) E.1 E.2.1 dX9_abandon_29 (by decide) ?_
        refine lv_goto (tgt := 34) E.1 E.2.1 dX9_abandon_30 (by decide) ?_
        refine x_calli E h hl 0 hf (fun r0 Sq0 hr => c_X9_throwsOne_ l D cy s00 _ S 0 1 r0 Sq0 hr) m_X9_throwsOne_ rfl rfl kw1717 rfl rfl (Nat.le_of_ble_eq_true rfl) ⟨by decide, by decide⟩ ⟨Nat.zero_le _, Nat.zero_le _⟩ dX9_abandon_34 (fun v17 S18 H locs hf h => ?_)
        refine x_br hf (lv_if_eq (tgt := 42) E.1 E.2.1 dX9_abandon_37 (by decide)) (fun hf => ?_) (fun hf => ?_)
        · refine lv_aload_n E.1 E.2.1 dX9_abandon_42 rfl (lv_at hl 1 rfl) ?_
          refine x_callv E h hl 0 hf (fun r0 hr => c_X9_begins l D cy s00 _ S18  r0 hr) m_X9_begins rfl rfl kw1705 rfl rfl (Nat.le_of_ble_eq_true rfl) ⟨by decide, by decide⟩ ⟨Nat.zero_le _, Nat.zero_le _⟩ dX9_abandon_43 (fun S19 H locs hf h => ?_)
          refine lv_aload_n E.1 E.2.1 dX9_abandon_46 rfl (lv_at hl 1 rfl) ?_
          refine lv_aload_n E.1 E.2.1 dX9_abandon_47 rfl (lv_at hl 1 rfl) ?_
          refine lv_iload_n E.1 E.2.1 dX9_abandon_48 rfl (lv_at hl 2 rfl) ?_
          refine x_calli E h hl 0 hf (fun r0 Sq0 hr => c_X9_leaves l D cy s00 _ S19 p0 r0 Sq0 hr) m_X9_leaves rfl rfl kw1498 rfl rfl (Nat.le_of_ble_eq_true rfl) ⟨by decide, by decide⟩ ⟨Nat.zero_le _, Nat.zero_le _⟩ dX9_abandon_49 (fun v20 S21 H locs hf h => ?_)
          refine x_calli E h hl 0 hf (fun r0 Sq0 hr => c_X9_remember l D cy s00 _ S21 v20 r0 Sq0 hr) m_X9_remember rfl rfl kw1709 rfl rfl (Nat.le_of_ble_eq_true rfl) ⟨by decide, by decide⟩ ⟨Nat.zero_le _, Nat.zero_le _⟩ dX9_abandon_52 (fun v22 S23 H locs hf h => ?_)
          exact x_iret E h hf dX9_abandon_55
        · refine lv_iconst (v := 0) E.1 E.2.1 dX9_abandon_40 (by decide) ?_
          exact x_iret E h hf dX9_abandon_41
  · refine lv_iconst (v := 1) E.1 E.2.1 dX9_abandon_11 (by decide) ?_
    refine lv_goto (tgt := 16) E.1 E.2.1 dX9_abandon_12 (by decide) ?_
    refine lv_iload_n E.1 E.2.1 dX9_abandon_16 rfl (lv_at hl 0 rfl) ?_
    refine x_br hf (lv_if_eq (tgt := 33) E.1 E.2.1 dX9_abandon_17 (by decide)) (fun hf => ?_) (fun hf => ?_)
    · refine lv_iconst (v := 0) E.1 E.2.1 dX9_abandon_33 (by decide) ?_
      refine x_calli E h hl 0 hf (fun r0 Sq0 hr => c_X9_throwsOne_ l D cy s00 _ S 1 0 r0 Sq0 hr) m_X9_throwsOne_ rfl rfl kw1717 rfl rfl (Nat.le_of_ble_eq_true rfl) ⟨by decide, by decide⟩ ⟨Nat.zero_le _, Nat.zero_le _⟩ dX9_abandon_34 (fun v24 S25 H locs hf h => ?_)
      refine x_br hf (lv_if_eq (tgt := 42) E.1 E.2.1 dX9_abandon_37 (by decide)) (fun hf => ?_) (fun hf => ?_)
      · refine lv_aload_n E.1 E.2.1 dX9_abandon_42 rfl (lv_at hl 1 rfl) ?_
        refine x_callv E h hl 0 hf (fun r0 hr => c_X9_begins l D cy s00 _ S25  r0 hr) m_X9_begins rfl rfl kw1705 rfl rfl (Nat.le_of_ble_eq_true rfl) ⟨by decide, by decide⟩ ⟨Nat.zero_le _, Nat.zero_le _⟩ dX9_abandon_43 (fun S26 H locs hf h => ?_)
        refine lv_aload_n E.1 E.2.1 dX9_abandon_46 rfl (lv_at hl 1 rfl) ?_
        refine lv_aload_n E.1 E.2.1 dX9_abandon_47 rfl (lv_at hl 1 rfl) ?_
        refine lv_iload_n E.1 E.2.1 dX9_abandon_48 rfl (lv_at hl 2 rfl) ?_
        refine x_calli E h hl 0 hf (fun r0 Sq0 hr => c_X9_leaves l D cy s00 _ S26 p0 r0 Sq0 hr) m_X9_leaves rfl rfl kw1498 rfl rfl (Nat.le_of_ble_eq_true rfl) ⟨by decide, by decide⟩ ⟨Nat.zero_le _, Nat.zero_le _⟩ dX9_abandon_49 (fun v27 S28 H locs hf h => ?_)
        refine x_calli E h hl 0 hf (fun r0 Sq0 hr => c_X9_remember l D cy s00 _ S28 v27 r0 Sq0 hr) m_X9_remember rfl rfl kw1709 rfl rfl (Nat.le_of_ble_eq_true rfl) ⟨by decide, by decide⟩ ⟨Nat.zero_le _, Nat.zero_le _⟩ dX9_abandon_52 (fun v29 S30 H locs hf h => ?_)
        exact x_iret E h hf dX9_abandon_55
      · refine lv_iconst (v := 0) E.1 E.2.1 dX9_abandon_40 (by decide) ?_
        exact x_iret E h hf dX9_abandon_41
    · refine lv_aload_n E.1 E.2.1 dX9_abandon_20 rfl (lv_at hl 1 rfl) ?_
      refine lv_iload_n E.1 E.2.1 dX9_abandon_21 rfl (lv_at hl 2 rfl) ?_
      refine x_callp E h hl 0 hf (fun r0 hr => c_X9_owner l D cy s00 _ S p0 r0 hr) m_X9_owner rfl rfl kw1465 rfl rfl (Nat.le_of_ble_eq_true rfl) ⟨by decide, by decide⟩ ⟨Nat.zero_le _, Nat.zero_le _⟩ dX9_abandon_22 (fun v31 H locs hf h => ?_)
      refine lv_iconst (v := (-1)) E.1 E.2.1 dX9_abandon_25 (by decide) ?_
      refine x_brn hf (lv_icmp_ne (tgt := 33) E.1 E.2.1 dX9_abandon_26 (by decide)) (fun hf => ?_) (fun hf => ?_)
      · refine lv_iconst (v := 0) E.1 E.2.1 dX9_abandon_33 (by decide) ?_
        refine x_calli E h hl 0 hf (fun r0 Sq0 hr => c_X9_throwsOne_ l D cy s00 _ S 1 0 r0 Sq0 hr) m_X9_throwsOne_ rfl rfl kw1717 rfl rfl (Nat.le_of_ble_eq_true rfl) ⟨by decide, by decide⟩ ⟨Nat.zero_le _, Nat.zero_le _⟩ dX9_abandon_34 (fun v32 S33 H locs hf h => ?_)
        refine x_br hf (lv_if_eq (tgt := 42) E.1 E.2.1 dX9_abandon_37 (by decide)) (fun hf => ?_) (fun hf => ?_)
        · refine lv_aload_n E.1 E.2.1 dX9_abandon_42 rfl (lv_at hl 1 rfl) ?_
          refine x_callv E h hl 0 hf (fun r0 hr => c_X9_begins l D cy s00 _ S33  r0 hr) m_X9_begins rfl rfl kw1705 rfl rfl (Nat.le_of_ble_eq_true rfl) ⟨by decide, by decide⟩ ⟨Nat.zero_le _, Nat.zero_le _⟩ dX9_abandon_43 (fun S34 H locs hf h => ?_)
          refine lv_aload_n E.1 E.2.1 dX9_abandon_46 rfl (lv_at hl 1 rfl) ?_
          refine lv_aload_n E.1 E.2.1 dX9_abandon_47 rfl (lv_at hl 1 rfl) ?_
          refine lv_iload_n E.1 E.2.1 dX9_abandon_48 rfl (lv_at hl 2 rfl) ?_
          refine x_calli E h hl 0 hf (fun r0 Sq0 hr => c_X9_leaves l D cy s00 _ S34 p0 r0 Sq0 hr) m_X9_leaves rfl rfl kw1498 rfl rfl (Nat.le_of_ble_eq_true rfl) ⟨by decide, by decide⟩ ⟨Nat.zero_le _, Nat.zero_le _⟩ dX9_abandon_49 (fun v35 S36 H locs hf h => ?_)
          refine x_calli E h hl 0 hf (fun r0 Sq0 hr => c_X9_remember l D cy s00 _ S36 v35 r0 Sq0 hr) m_X9_remember rfl rfl kw1709 rfl rfl (Nat.le_of_ble_eq_true rfl) ⟨by decide, by decide⟩ ⟨Nat.zero_le _, Nat.zero_le _⟩ dX9_abandon_52 (fun v37 S38 H locs hf h => ?_)
          exact x_iret E h hf dX9_abandon_55
        · refine lv_iconst (v := 0) E.1 E.2.1 dX9_abandon_40 (by decide) ?_
          exact x_iret E h hf dX9_abandon_41
      · refine lv_iconst (v := 1) E.1 E.2.1 dX9_abandon_29 (by decide) ?_
        refine lv_goto (tgt := 34) E.1 E.2.1 dX9_abandon_30 (by decide) ?_
        refine x_calli E h hl 0 hf (fun r0 Sq0 hr => c_X9_throwsOne_ l D cy s00 _ S 1 1 r0 Sq0 hr) m_X9_throwsOne_ rfl rfl kw1717 rfl rfl (Nat.le_of_ble_eq_true rfl) ⟨by decide, by decide⟩ ⟨Nat.zero_le _, Nat.zero_le _⟩ dX9_abandon_34 (fun v39 S40 H locs hf h => ?_)
        refine x_br hf (lv_if_eq (tgt := 42) E.1 E.2.1 dX9_abandon_37 (by decide)) (fun hf => ?_) (fun hf => ?_)
        · refine lv_aload_n E.1 E.2.1 dX9_abandon_42 rfl (lv_at hl 1 rfl) ?_
          refine x_callv E h hl 0 hf (fun r0 hr => c_X9_begins l D cy s00 _ S40  r0 hr) m_X9_begins rfl rfl kw1705 rfl rfl (Nat.le_of_ble_eq_true rfl) ⟨by decide, by decide⟩ ⟨Nat.zero_le _, Nat.zero_le _⟩ dX9_abandon_43 (fun S41 H locs hf h => ?_)
          refine lv_aload_n E.1 E.2.1 dX9_abandon_46 rfl (lv_at hl 1 rfl) ?_
          refine lv_aload_n E.1 E.2.1 dX9_abandon_47 rfl (lv_at hl 1 rfl) ?_
          refine lv_iload_n E.1 E.2.1 dX9_abandon_48 rfl (lv_at hl 2 rfl) ?_
          refine x_calli E h hl 0 hf (fun r0 Sq0 hr => c_X9_leaves l D cy s00 _ S41 p0 r0 Sq0 hr) m_X9_leaves rfl rfl kw1498 rfl rfl (Nat.le_of_ble_eq_true rfl) ⟨by decide, by decide⟩ ⟨Nat.zero_le _, Nat.zero_le _⟩ dX9_abandon_49 (fun v42 S43 H locs hf h => ?_)
          refine x_calli E h hl 0 hf (fun r0 Sq0 hr => c_X9_remember l D cy s00 _ S43 v42 r0 Sq0 hr) m_X9_remember rfl rfl kw1709 rfl rfl (Nat.le_of_ble_eq_true rfl) ⟨by decide, by decide⟩ ⟨Nat.zero_le _, Nat.zero_le _⟩ dX9_abandon_52 (fun v44 S45 H locs hf h => ?_)
          exact x_iret E h hf dX9_abandon_55
        · refine lv_iconst (v := 0) E.1 E.2.1 dX9_abandon_40 (by decide) ?_
          exact x_iret E h hf dX9_abandon_41
set_option maxHeartbeats 4000000 in
set_option maxRecDepth 100000 in
theorem c_X9_areCats (l : Launch) (D : va_G) (cy : Nat → ClassId) (s00 : State) (ad : Nat → Nat) (S : XS) (p0 p1 : Int32) (r9 : Int32) (hf : f_X9_areCats S p0 p1 = some r9) : XI l yX9_areCats cX9_areCats 3 (some .boolean) 2 D cy s00 shMod ad S [.ref (ad 0), .int p0, .int p1] r9 S := by
  refine XI.of (by decide) [(0, .ref (ad 0)), (1, .int p0), (2, .int p1)] rfl (Nat.le_of_ble_eq_true rfl) (fun p e s m args below meth c A ls E h hl => ?_)
  unfold f_X9_areCats at hf
  refine lv_aload_n E.1 E.2.1 dX9_areCats_0 rfl (lv_at hl 0 rfl) ?_
  refine lv_iload_n E.1 E.2.1 dX9_areCats_1 rfl (lv_at hl 1 rfl) ?_
  refine x_callp E h hl 0 hf (fun r0 hr => c_X9_isCat l D cy s00 _ S p0 r0 hr) m_X9_isCat rfl rfl kw1744 rfl rfl (Nat.le_of_ble_eq_true rfl) ⟨by decide, by decide⟩ ⟨Nat.zero_le _, Nat.zero_le _⟩ dX9_areCats_2 (fun v1 H locs hf h => ?_)
  refine x_br hf (lv_if_eq (tgt := 20) E.1 E.2.1 dX9_areCats_5 (by decide)) (fun hf => ?_) (fun hf => ?_)
  · refine lv_iconst (v := 0) E.1 E.2.1 dX9_areCats_20 (by decide) ?_
    exact x_zrc E h (by decide) hf dX9_areCats_21
  · refine lv_aload_n E.1 E.2.1 dX9_areCats_8 rfl (lv_at hl 0 rfl) ?_
    refine lv_iload_n E.1 E.2.1 dX9_areCats_9 rfl (lv_at hl 2 rfl) ?_
    refine x_callp E h hl 0 hf (fun r0 hr => c_X9_isCat l D cy s00 _ S p1 r0 hr) m_X9_isCat rfl rfl kw1744 rfl rfl (Nat.le_of_ble_eq_true rfl) ⟨by decide, by decide⟩ ⟨Nat.zero_le _, Nat.zero_le _⟩ dX9_areCats_10 (fun v2 H locs hf h => ?_)
    refine x_br hf (lv_if_eq (tgt := 20) E.1 E.2.1 dX9_areCats_13 (by decide)) (fun hf => ?_) (fun hf => ?_)
    · refine lv_iconst (v := 0) E.1 E.2.1 dX9_areCats_20 (by decide) ?_
      exact x_zrc E h (by decide) hf dX9_areCats_21
    · refine lv_iconst (v := 1) E.1 E.2.1 dX9_areCats_16 (by decide) ?_
      refine lv_goto (tgt := 21) E.1 E.2.1 dX9_areCats_17 (by decide) ?_
      exact x_zrc E h (by decide) hf dX9_areCats_21
set_option maxHeartbeats 4000000 in
set_option maxRecDepth 100000 in
theorem c_X9_chase (l : Launch) (D : va_G) (cy : Nat → ClassId) (s00 : State) (ad : Nat → Nat) (S : XS) (p0 p1 : Int32) (r9 : Int32) (S9 : XS) (hf : f_X9_chase S p0 p1 = some (r9, S9)) : XI l yX9_chase cX9_chase 4 (some .boolean) 4 D cy s00 shMod ad S [.ref (ad 0), .int p0, .int p1] r9 S9 := by
  refine XI.of (by decide) [(0, .ref (ad 0)), (1, .int p0), (2, .int p1)] rfl (Nat.le_of_ble_eq_true rfl) (fun p e s m args below meth c A ls E h hl => ?_)
  unfold f_X9_chase at hf
  refine lv_aload_n E.1 E.2.1 dX9_chase_0 rfl (lv_at hl 0 rfl) ?_
  refine lv_iload_n E.1 E.2.1 dX9_chase_1 rfl (lv_at hl 1 rfl) ?_
  refine lv_iload_n E.1 E.2.1 dX9_chase_2 rfl (lv_at hl 2 rfl) ?_
  refine x_callp E h hl 0 hf (fun r0 hr => c_X9_areCats l D cy s00 _ S p0 p1 r0 hr) m_X9_areCats rfl rfl kw1764 rfl rfl (Nat.le_of_ble_eq_true rfl) ⟨by decide, by decide⟩ ⟨Nat.zero_le _, Nat.zero_le _⟩ dX9_chase_3 (fun v1 H locs hf h => ?_)
  refine lv_istore_n (lv' := [(3, .int v1), (0, .ref (ad 0)), (1, .int p0), (2, .int p1)]) E.1 E.2.1 dX9_chase_6 rfl hl (by decide) rfl (fun ls hl => ?_)
  refine lv_aload_n E.1 E.2.1 dX9_chase_7 rfl (lv_at hl 1 rfl) ?_
  refine lv_iload_n E.1 E.2.1 dX9_chase_8 rfl (lv_at hl 0 rfl) ?_
  refine x_brn hf (lv_if_ne (tgt := 16) E.1 E.2.1 dX9_chase_9 (by decide)) (fun hf => ?_) (fun hf => ?_)
  · refine lv_iconst (v := 0) E.1 E.2.1 dX9_chase_16 (by decide) ?_
    refine lv_iload_n E.1 E.2.1 dX9_chase_17 rfl (lv_at hl 2 rfl) ?_
    refine lv_iload_n E.1 E.2.1 dX9_chase_18 rfl (lv_at hl 3 rfl) ?_
    refine x_brn hf (lv_icmp_ne (tgt := 26) E.1 E.2.1 dX9_chase_19 (by decide)) (fun hf => ?_) (fun hf => ?_)
    · refine lv_iconst (v := 0) E.1 E.2.1 dX9_chase_26 (by decide) ?_
      refine lv_iload_n E.1 E.2.1 dX9_chase_27 rfl (lv_at hl 0 rfl) ?_
      refine x_br hf (lv_if_eq (tgt := 49) E.1 E.2.1 dX9_chase_28 (by decide)) (fun hf => ?_) (fun hf => ?_)
      · refine lv_iconst (v := 0) E.1 E.2.1 dX9_chase_49 (by decide) ?_
        refine x_calli E h hl 0 hf (fun r0 Sq0 hr => c_X9_throwsOne__ l D cy s00 _ S 0 0 0 r0 Sq0 hr) m_X9_throwsOne__ rfl rfl kw1729 rfl rfl (Nat.le_of_ble_eq_true rfl) ⟨by decide, by decide⟩ ⟨Nat.zero_le _, Nat.zero_le _⟩ dX9_chase_50 (fun v2 S3 H locs hf h => ?_)
        refine x_br hf (lv_if_eq (tgt := 58) E.1 E.2.1 dX9_chase_53 (by decide)) (fun hf => ?_) (fun hf => ?_)
        · refine lv_aload_n E.1 E.2.1 dX9_chase_58 rfl (lv_at hl 1 rfl) ?_
          refine x_callv E h hl 0 hf (fun r0 hr => c_X9_begins l D cy s00 _ S3  r0 hr) m_X9_begins rfl rfl kw1705 rfl rfl (Nat.le_of_ble_eq_true rfl) ⟨by decide, by decide⟩ ⟨Nat.zero_le _, Nat.zero_le _⟩ dX9_chase_59 (fun S4 H locs hf h => ?_)
          refine lv_aload_n E.1 E.2.1 dX9_chase_62 rfl (lv_at hl 1 rfl) ?_
          refine lv_aload_n E.1 E.2.1 dX9_chase_63 rfl (lv_at hl 1 rfl) ?_
          refine lv_iload_n E.1 E.2.1 dX9_chase_64 rfl (lv_at hl 2 rfl) ?_
          refine lv_iload_n E.1 E.2.1 dX9_chase_65 rfl (lv_at hl 3 rfl) ?_
          refine x_calli E h hl 0 hf (fun r0 Sq0 hr => c_X9_chases l D cy s00 _ S4 p0 p1 r0 Sq0 hr) m_X9_chases rfl rfl kw1526 rfl rfl (Nat.le_of_ble_eq_true rfl) ⟨by decide, by decide⟩ ⟨Nat.zero_le _, Nat.zero_le _⟩ dX9_chase_66 (fun v5 S6 H locs hf h => ?_)
          refine x_br hf (lv_if_eq (tgt := 76) E.1 E.2.1 dX9_chase_69 (by decide)) (fun hf => ?_) (fun hf => ?_)
          · refine lv_iconst (v := 0) E.1 E.2.1 dX9_chase_76 (by decide) ?_
            refine x_calli E h hl 0 hf (fun r0 Sq0 hr => c_X9_remember l D cy s00 _ S6 0 r0 Sq0 hr) m_X9_remember rfl rfl kw1709 rfl rfl (Nat.le_of_ble_eq_true rfl) ⟨by decide, by decide⟩ ⟨Nat.zero_le _, Nat.zero_le _⟩ dX9_chase_77 (fun v7 S8 H locs hf h => ?_)
            refine lv_iconst (v := 1) E.1 E.2.1 dX9_chase_80 (by decide) ?_
            refine x_brn hf (lv_icmp_ne (tgt := 88) E.1 E.2.1 dX9_chase_81 (by decide)) (fun hf => ?_) (fun hf => ?_)
            · refine lv_iconst (v := 0) E.1 E.2.1 dX9_chase_88 (by decide) ?_
              exact x_zic E h (by decide) hf dX9_chase_89
            · refine lv_iconst (v := 1) E.1 E.2.1 dX9_chase_84 (by decide) ?_
              refine lv_goto (tgt := 89) E.1 E.2.1 dX9_chase_85 (by decide) ?_
              exact x_zic E h (by decide) hf dX9_chase_89
          · refine lv_iconst (v := 1) E.1 E.2.1 dX9_chase_72 (by decide) ?_
            refine lv_goto (tgt := 77) E.1 E.2.1 dX9_chase_73 (by decide) ?_
            refine x_calli E h hl 0 hf (fun r0 Sq0 hr => c_X9_remember l D cy s00 _ S6 1 r0 Sq0 hr) m_X9_remember rfl rfl kw1709 rfl rfl (Nat.le_of_ble_eq_true rfl) ⟨by decide, by decide⟩ ⟨Nat.zero_le _, Nat.zero_le _⟩ dX9_chase_77 (fun v9 S10 H locs hf h => ?_)
            refine lv_iconst (v := 1) E.1 E.2.1 dX9_chase_80 (by decide) ?_
            refine x_brn hf (lv_icmp_ne (tgt := 88) E.1 E.2.1 dX9_chase_81 (by decide)) (fun hf => ?_) (fun hf => ?_)
            · refine lv_iconst (v := 0) E.1 E.2.1 dX9_chase_88 (by decide) ?_
              exact x_zic E h (by decide) hf dX9_chase_89
            · refine lv_iconst (v := 1) E.1 E.2.1 dX9_chase_84 (by decide) ?_
              refine lv_goto (tgt := 89) E.1 E.2.1 dX9_chase_85 (by decide) ?_
              exact x_zic E h (by decide) hf dX9_chase_89
        · refine lv_iconst (v := 0) E.1 E.2.1 dX9_chase_56 (by decide) ?_
          exact x_zic E h (by decide) hf dX9_chase_57
      · refine lv_iload_n E.1 E.2.1 dX9_chase_31 rfl (lv_at hl 2 rfl) ?_
        refine lv_iload_n E.1 E.2.1 dX9_chase_32 rfl (lv_at hl 3 rfl) ?_
        refine x_br hf (lv_icmp_eq (tgt := 49) E.1 E.2.1 dX9_chase_33 (by decide)) (fun hf => ?_) (fun hf => ?_)
        · refine lv_iconst (v := 0) E.1 E.2.1 dX9_chase_49 (by decide) ?_
          refine x_calli E h hl 0 hf (fun r0 Sq0 hr => c_X9_throwsOne__ l D cy s00 _ S 0 0 0 r0 Sq0 hr) m_X9_throwsOne__ rfl rfl kw1729 rfl rfl (Nat.le_of_ble_eq_true rfl) ⟨by decide, by decide⟩ ⟨Nat.zero_le _, Nat.zero_le _⟩ dX9_chase_50 (fun v11 S12 H locs hf h => ?_)
          refine x_br hf (lv_if_eq (tgt := 58) E.1 E.2.1 dX9_chase_53 (by decide)) (fun hf => ?_) (fun hf => ?_)
          · refine lv_aload_n E.1 E.2.1 dX9_chase_58 rfl (lv_at hl 1 rfl) ?_
            refine x_callv E h hl 0 hf (fun r0 hr => c_X9_begins l D cy s00 _ S12  r0 hr) m_X9_begins rfl rfl kw1705 rfl rfl (Nat.le_of_ble_eq_true rfl) ⟨by decide, by decide⟩ ⟨Nat.zero_le _, Nat.zero_le _⟩ dX9_chase_59 (fun S13 H locs hf h => ?_)
            refine lv_aload_n E.1 E.2.1 dX9_chase_62 rfl (lv_at hl 1 rfl) ?_
            refine lv_aload_n E.1 E.2.1 dX9_chase_63 rfl (lv_at hl 1 rfl) ?_
            refine lv_iload_n E.1 E.2.1 dX9_chase_64 rfl (lv_at hl 2 rfl) ?_
            refine lv_iload_n E.1 E.2.1 dX9_chase_65 rfl (lv_at hl 3 rfl) ?_
            refine x_calli E h hl 0 hf (fun r0 Sq0 hr => c_X9_chases l D cy s00 _ S13 p0 p1 r0 Sq0 hr) m_X9_chases rfl rfl kw1526 rfl rfl (Nat.le_of_ble_eq_true rfl) ⟨by decide, by decide⟩ ⟨Nat.zero_le _, Nat.zero_le _⟩ dX9_chase_66 (fun v14 S15 H locs hf h => ?_)
            refine x_br hf (lv_if_eq (tgt := 76) E.1 E.2.1 dX9_chase_69 (by decide)) (fun hf => ?_) (fun hf => ?_)
            · refine lv_iconst (v := 0) E.1 E.2.1 dX9_chase_76 (by decide) ?_
              refine x_calli E h hl 0 hf (fun r0 Sq0 hr => c_X9_remember l D cy s00 _ S15 0 r0 Sq0 hr) m_X9_remember rfl rfl kw1709 rfl rfl (Nat.le_of_ble_eq_true rfl) ⟨by decide, by decide⟩ ⟨Nat.zero_le _, Nat.zero_le _⟩ dX9_chase_77 (fun v16 S17 H locs hf h => ?_)
              refine lv_iconst (v := 1) E.1 E.2.1 dX9_chase_80 (by decide) ?_
              refine x_brn hf (lv_icmp_ne (tgt := 88) E.1 E.2.1 dX9_chase_81 (by decide)) (fun hf => ?_) (fun hf => ?_)
              · refine lv_iconst (v := 0) E.1 E.2.1 dX9_chase_88 (by decide) ?_
                exact x_zic E h (by decide) hf dX9_chase_89
              · refine lv_iconst (v := 1) E.1 E.2.1 dX9_chase_84 (by decide) ?_
                refine lv_goto (tgt := 89) E.1 E.2.1 dX9_chase_85 (by decide) ?_
                exact x_zic E h (by decide) hf dX9_chase_89
            · refine lv_iconst (v := 1) E.1 E.2.1 dX9_chase_72 (by decide) ?_
              refine lv_goto (tgt := 77) E.1 E.2.1 dX9_chase_73 (by decide) ?_
              refine x_calli E h hl 0 hf (fun r0 Sq0 hr => c_X9_remember l D cy s00 _ S15 1 r0 Sq0 hr) m_X9_remember rfl rfl kw1709 rfl rfl (Nat.le_of_ble_eq_true rfl) ⟨by decide, by decide⟩ ⟨Nat.zero_le _, Nat.zero_le _⟩ dX9_chase_77 (fun v18 S19 H locs hf h => ?_)
              refine lv_iconst (v := 1) E.1 E.2.1 dX9_chase_80 (by decide) ?_
              refine x_brn hf (lv_icmp_ne (tgt := 88) E.1 E.2.1 dX9_chase_81 (by decide)) (fun hf => ?_) (fun hf => ?_)
              · refine lv_iconst (v := 0) E.1 E.2.1 dX9_chase_88 (by decide) ?_
                exact x_zic E h (by decide) hf dX9_chase_89
              · refine lv_iconst (v := 1) E.1 E.2.1 dX9_chase_84 (by decide) ?_
                refine lv_goto (tgt := 89) E.1 E.2.1 dX9_chase_85 (by decide) ?_
                exact x_zic E h (by decide) hf dX9_chase_89
          · refine lv_iconst (v := 0) E.1 E.2.1 dX9_chase_56 (by decide) ?_
            exact x_zic E h (by decide) hf dX9_chase_57
        · refine lv_aload_n E.1 E.2.1 dX9_chase_36 rfl (lv_at hl 1 rfl) ?_
          refine lv_iload_n E.1 E.2.1 dX9_chase_37 rfl (lv_at hl 2 rfl) ?_
          refine lv_iload_n E.1 E.2.1 dX9_chase_38 rfl (lv_at hl 3 rfl) ?_
          refine x_callp E h hl 0 hf (fun r0 hr => c_X9_whySpares l D cy s00 _ S p0 p1 r0 hr) m_X9_whySpares rfl rfl kw1506 rfl rfl (Nat.le_of_ble_eq_true rfl) ⟨by decide, by decide⟩ ⟨Nat.zero_le _, Nat.zero_le _⟩ dX9_chase_39 (fun v20 H locs hf h => ?_)
          refine x_br hf (lv_if_eq (tgt := 49) E.1 E.2.1 dX9_chase_42 (by decide)) (fun hf => ?_) (fun hf => ?_)
          · refine lv_iconst (v := 0) E.1 E.2.1 dX9_chase_49 (by decide) ?_
            refine x_calli E h hl 0 hf (fun r0 Sq0 hr => c_X9_throwsOne__ l D cy s00 _ S 0 0 0 r0 Sq0 hr) m_X9_throwsOne__ rfl rfl kw1729 rfl rfl (Nat.le_of_ble_eq_true rfl) ⟨by decide, by decide⟩ ⟨Nat.zero_le _, Nat.zero_le _⟩ dX9_chase_50 (fun v21 S22 H locs hf h => ?_)
            refine x_br hf (lv_if_eq (tgt := 58) E.1 E.2.1 dX9_chase_53 (by decide)) (fun hf => ?_) (fun hf => ?_)
            · refine lv_aload_n E.1 E.2.1 dX9_chase_58 rfl (lv_at hl 1 rfl) ?_
              refine x_callv E h hl 0 hf (fun r0 hr => c_X9_begins l D cy s00 _ S22  r0 hr) m_X9_begins rfl rfl kw1705 rfl rfl (Nat.le_of_ble_eq_true rfl) ⟨by decide, by decide⟩ ⟨Nat.zero_le _, Nat.zero_le _⟩ dX9_chase_59 (fun S23 H locs hf h => ?_)
              refine lv_aload_n E.1 E.2.1 dX9_chase_62 rfl (lv_at hl 1 rfl) ?_
              refine lv_aload_n E.1 E.2.1 dX9_chase_63 rfl (lv_at hl 1 rfl) ?_
              refine lv_iload_n E.1 E.2.1 dX9_chase_64 rfl (lv_at hl 2 rfl) ?_
              refine lv_iload_n E.1 E.2.1 dX9_chase_65 rfl (lv_at hl 3 rfl) ?_
              refine x_calli E h hl 0 hf (fun r0 Sq0 hr => c_X9_chases l D cy s00 _ S23 p0 p1 r0 Sq0 hr) m_X9_chases rfl rfl kw1526 rfl rfl (Nat.le_of_ble_eq_true rfl) ⟨by decide, by decide⟩ ⟨Nat.zero_le _, Nat.zero_le _⟩ dX9_chase_66 (fun v24 S25 H locs hf h => ?_)
              refine x_br hf (lv_if_eq (tgt := 76) E.1 E.2.1 dX9_chase_69 (by decide)) (fun hf => ?_) (fun hf => ?_)
              · refine lv_iconst (v := 0) E.1 E.2.1 dX9_chase_76 (by decide) ?_
                refine x_calli E h hl 0 hf (fun r0 Sq0 hr => c_X9_remember l D cy s00 _ S25 0 r0 Sq0 hr) m_X9_remember rfl rfl kw1709 rfl rfl (Nat.le_of_ble_eq_true rfl) ⟨by decide, by decide⟩ ⟨Nat.zero_le _, Nat.zero_le _⟩ dX9_chase_77 (fun v26 S27 H locs hf h => ?_)
                refine lv_iconst (v := 1) E.1 E.2.1 dX9_chase_80 (by decide) ?_
                refine x_brn hf (lv_icmp_ne (tgt := 88) E.1 E.2.1 dX9_chase_81 (by decide)) (fun hf => ?_) (fun hf => ?_)
                · refine lv_iconst (v := 0) E.1 E.2.1 dX9_chase_88 (by decide) ?_
                  exact x_zic E h (by decide) hf dX9_chase_89
                · refine lv_iconst (v := 1) E.1 E.2.1 dX9_chase_84 (by decide) ?_
                  refine lv_goto (tgt := 89) E.1 E.2.1 dX9_chase_85 (by decide) ?_
                  exact x_zic E h (by decide) hf dX9_chase_89
              · refine lv_iconst (v := 1) E.1 E.2.1 dX9_chase_72 (by decide) ?_
                refine lv_goto (tgt := 77) E.1 E.2.1 dX9_chase_73 (by decide) ?_
                refine x_calli E h hl 0 hf (fun r0 Sq0 hr => c_X9_remember l D cy s00 _ S25 1 r0 Sq0 hr) m_X9_remember rfl rfl kw1709 rfl rfl (Nat.le_of_ble_eq_true rfl) ⟨by decide, by decide⟩ ⟨Nat.zero_le _, Nat.zero_le _⟩ dX9_chase_77 (fun v28 S29 H locs hf h => ?_)
                refine lv_iconst (v := 1) E.1 E.2.1 dX9_chase_80 (by decide) ?_
                refine x_brn hf (lv_icmp_ne (tgt := 88) E.1 E.2.1 dX9_chase_81 (by decide)) (fun hf => ?_) (fun hf => ?_)
                · refine lv_iconst (v := 0) E.1 E.2.1 dX9_chase_88 (by decide) ?_
                  exact x_zic E h (by decide) hf dX9_chase_89
                · refine lv_iconst (v := 1) E.1 E.2.1 dX9_chase_84 (by decide) ?_
                  refine lv_goto (tgt := 89) E.1 E.2.1 dX9_chase_85 (by decide) ?_
                  exact x_zic E h (by decide) hf dX9_chase_89
            · refine lv_iconst (v := 0) E.1 E.2.1 dX9_chase_56 (by decide) ?_
              exact x_zic E h (by decide) hf dX9_chase_57
          · refine lv_iconst (v := 1) E.1 E.2.1 dX9_chase_45 (by decide) ?_
            refine lv_goto (tgt := 50) E.1 E.2.1 dX9_chase_46 (by decide) ?_
            refine x_calli E h hl 0 hf (fun r0 Sq0 hr => c_X9_throwsOne__ l D cy s00 _ S 0 0 1 r0 Sq0 hr) m_X9_throwsOne__ rfl rfl kw1729 rfl rfl (Nat.le_of_ble_eq_true rfl) ⟨by decide, by decide⟩ ⟨Nat.zero_le _, Nat.zero_le _⟩ dX9_chase_50 (fun v30 S31 H locs hf h => ?_)
            refine x_br hf (lv_if_eq (tgt := 58) E.1 E.2.1 dX9_chase_53 (by decide)) (fun hf => ?_) (fun hf => ?_)
            · refine lv_aload_n E.1 E.2.1 dX9_chase_58 rfl (lv_at hl 1 rfl) ?_
              refine x_callv E h hl 0 hf (fun r0 hr => c_X9_begins l D cy s00 _ S31  r0 hr) m_X9_begins rfl rfl kw1705 rfl rfl (Nat.le_of_ble_eq_true rfl) ⟨by decide, by decide⟩ ⟨Nat.zero_le _, Nat.zero_le _⟩ dX9_chase_59 (fun S32 H locs hf h => ?_)
              refine lv_aload_n E.1 E.2.1 dX9_chase_62 rfl (lv_at hl 1 rfl) ?_
              refine lv_aload_n E.1 E.2.1 dX9_chase_63 rfl (lv_at hl 1 rfl) ?_
              refine lv_iload_n E.1 E.2.1 dX9_chase_64 rfl (lv_at hl 2 rfl) ?_
              refine lv_iload_n E.1 E.2.1 dX9_chase_65 rfl (lv_at hl 3 rfl) ?_
              refine x_calli E h hl 0 hf (fun r0 Sq0 hr => c_X9_chases l D cy s00 _ S32 p0 p1 r0 Sq0 hr) m_X9_chases rfl rfl kw1526 rfl rfl (Nat.le_of_ble_eq_true rfl) ⟨by decide, by decide⟩ ⟨Nat.zero_le _, Nat.zero_le _⟩ dX9_chase_66 (fun v33 S34 H locs hf h => ?_)
              refine x_br hf (lv_if_eq (tgt := 76) E.1 E.2.1 dX9_chase_69 (by decide)) (fun hf => ?_) (fun hf => ?_)
              · refine lv_iconst (v := 0) E.1 E.2.1 dX9_chase_76 (by decide) ?_
                refine x_calli E h hl 0 hf (fun r0 Sq0 hr => c_X9_remember l D cy s00 _ S34 0 r0 Sq0 hr) m_X9_remember rfl rfl kw1709 rfl rfl (Nat.le_of_ble_eq_true rfl) ⟨by decide, by decide⟩ ⟨Nat.zero_le _, Nat.zero_le _⟩ dX9_chase_77 (fun v35 S36 H locs hf h => ?_)
                refine lv_iconst (v := 1) E.1 E.2.1 dX9_chase_80 (by decide) ?_
                refine x_brn hf (lv_icmp_ne (tgt := 88) E.1 E.2.1 dX9_chase_81 (by decide)) (fun hf => ?_) (fun hf => ?_)
                · refine lv_iconst (v := 0) E.1 E.2.1 dX9_chase_88 (by decide) ?_
                  exact x_zic E h (by decide) hf dX9_chase_89
                · refine lv_iconst (v := 1) E.1 E.2.1 dX9_chase_84 (by decide) ?_
                  refine lv_goto (tgt := 89) E.1 E.2.1 dX9_chase_85 (by decide) ?_
                  exact x_zic E h (by decide) hf dX9_chase_89
              · refine lv_iconst (v := 1) E.1 E.2.1 dX9_chase_72 (by decide) ?_
                refine lv_goto (tgt := 77) E.1 E.2.1 dX9_chase_73 (by decide) ?_
                refine x_calli E h hl 0 hf (fun r0 Sq0 hr => c_X9_remember l D cy s00 _ S34 1 r0 Sq0 hr) m_X9_remember rfl rfl kw1709 rfl rfl (Nat.le_of_ble_eq_true rfl) ⟨by decide, by decide⟩ ⟨Nat.zero_le _, Nat.zero_le _⟩ dX9_chase_77 (fun v37 S38 H locs hf h => ?_)
                refine lv_iconst (v := 1) E.1 E.2.1 dX9_chase_80 (by decide) ?_
                refine x_brn hf (lv_icmp_ne (tgt := 88) E.1 E.2.1 dX9_chase_81 (by decide)) (fun hf => ?_) (fun hf => ?_)
                · refine lv_iconst (v := 0) E.1 E.2.1 dX9_chase_88 (by decide) ?_
                  exact x_zic E h (by decide) hf dX9_chase_89
                · refine lv_iconst (v := 1) E.1 E.2.1 dX9_chase_84 (by decide) ?_
                  refine lv_goto (tgt := 89) E.1 E.2.1 dX9_chase_85 (by decide) ?_
                  exact x_zic E h (by decide) hf dX9_chase_89
            · refine lv_iconst (v := 0) E.1 E.2.1 dX9_chase_56 (by decide) ?_
              exact x_zic E h (by decide) hf dX9_chase_57
    · refine lv_iconst (v := 1) E.1 E.2.1 dX9_chase_22 (by decide) ?_
      refine lv_goto (tgt := 27) E.1 E.2.1 dX9_chase_23 (by decide) ?_
      refine lv_iload_n E.1 E.2.1 dX9_chase_27 rfl (lv_at hl 0 rfl) ?_
      refine x_br hf (lv_if_eq (tgt := 49) E.1 E.2.1 dX9_chase_28 (by decide)) (fun hf => ?_) (fun hf => ?_)
      · refine lv_iconst (v := 0) E.1 E.2.1 dX9_chase_49 (by decide) ?_
        refine x_calli E h hl 0 hf (fun r0 Sq0 hr => c_X9_throwsOne__ l D cy s00 _ S 0 1 0 r0 Sq0 hr) m_X9_throwsOne__ rfl rfl kw1729 rfl rfl (Nat.le_of_ble_eq_true rfl) ⟨by decide, by decide⟩ ⟨Nat.zero_le _, Nat.zero_le _⟩ dX9_chase_50 (fun v39 S40 H locs hf h => ?_)
        refine x_br hf (lv_if_eq (tgt := 58) E.1 E.2.1 dX9_chase_53 (by decide)) (fun hf => ?_) (fun hf => ?_)
        · refine lv_aload_n E.1 E.2.1 dX9_chase_58 rfl (lv_at hl 1 rfl) ?_
          refine x_callv E h hl 0 hf (fun r0 hr => c_X9_begins l D cy s00 _ S40  r0 hr) m_X9_begins rfl rfl kw1705 rfl rfl (Nat.le_of_ble_eq_true rfl) ⟨by decide, by decide⟩ ⟨Nat.zero_le _, Nat.zero_le _⟩ dX9_chase_59 (fun S41 H locs hf h => ?_)
          refine lv_aload_n E.1 E.2.1 dX9_chase_62 rfl (lv_at hl 1 rfl) ?_
          refine lv_aload_n E.1 E.2.1 dX9_chase_63 rfl (lv_at hl 1 rfl) ?_
          refine lv_iload_n E.1 E.2.1 dX9_chase_64 rfl (lv_at hl 2 rfl) ?_
          refine lv_iload_n E.1 E.2.1 dX9_chase_65 rfl (lv_at hl 3 rfl) ?_
          refine x_calli E h hl 0 hf (fun r0 Sq0 hr => c_X9_chases l D cy s00 _ S41 p0 p1 r0 Sq0 hr) m_X9_chases rfl rfl kw1526 rfl rfl (Nat.le_of_ble_eq_true rfl) ⟨by decide, by decide⟩ ⟨Nat.zero_le _, Nat.zero_le _⟩ dX9_chase_66 (fun v42 S43 H locs hf h => ?_)
          refine x_br hf (lv_if_eq (tgt := 76) E.1 E.2.1 dX9_chase_69 (by decide)) (fun hf => ?_) (fun hf => ?_)
          · refine lv_iconst (v := 0) E.1 E.2.1 dX9_chase_76 (by decide) ?_
            refine x_calli E h hl 0 hf (fun r0 Sq0 hr => c_X9_remember l D cy s00 _ S43 0 r0 Sq0 hr) m_X9_remember rfl rfl kw1709 rfl rfl (Nat.le_of_ble_eq_true rfl) ⟨by decide, by decide⟩ ⟨Nat.zero_le _, Nat.zero_le _⟩ dX9_chase_77 (fun v44 S45 H locs hf h => ?_)
            refine lv_iconst (v := 1) E.1 E.2.1 dX9_chase_80 (by decide) ?_
            refine x_brn hf (lv_icmp_ne (tgt := 88) E.1 E.2.1 dX9_chase_81 (by decide)) (fun hf => ?_) (fun hf => ?_)
            · refine lv_iconst (v := 0) E.1 E.2.1 dX9_chase_88 (by decide) ?_
              exact x_zic E h (by decide) hf dX9_chase_89
            · refine lv_iconst (v := 1) E.1 E.2.1 dX9_chase_84 (by decide) ?_
              refine lv_goto (tgt := 89) E.1 E.2.1 dX9_chase_85 (by decide) ?_
              exact x_zic E h (by decide) hf dX9_chase_89
          · refine lv_iconst (v := 1) E.1 E.2.1 dX9_chase_72 (by decide) ?_
            refine lv_goto (tgt := 77) E.1 E.2.1 dX9_chase_73 (by decide) ?_
            refine x_calli E h hl 0 hf (fun r0 Sq0 hr => c_X9_remember l D cy s00 _ S43 1 r0 Sq0 hr) m_X9_remember rfl rfl kw1709 rfl rfl (Nat.le_of_ble_eq_true rfl) ⟨by decide, by decide⟩ ⟨Nat.zero_le _, Nat.zero_le _⟩ dX9_chase_77 (fun v46 S47 H locs hf h => ?_)
            refine lv_iconst (v := 1) E.1 E.2.1 dX9_chase_80 (by decide) ?_
            refine x_brn hf (lv_icmp_ne (tgt := 88) E.1 E.2.1 dX9_chase_81 (by decide)) (fun hf => ?_) (fun hf => ?_)
            · refine lv_iconst (v := 0) E.1 E.2.1 dX9_chase_88 (by decide) ?_
              exact x_zic E h (by decide) hf dX9_chase_89
            · refine lv_iconst (v := 1) E.1 E.2.1 dX9_chase_84 (by decide) ?_
              refine lv_goto (tgt := 89) E.1 E.2.1 dX9_chase_85 (by decide) ?_
              exact x_zic E h (by decide) hf dX9_chase_89
        · refine lv_iconst (v := 0) E.1 E.2.1 dX9_chase_56 (by decide) ?_
          exact x_zic E h (by decide) hf dX9_chase_57
      · refine lv_iload_n E.1 E.2.1 dX9_chase_31 rfl (lv_at hl 2 rfl) ?_
        refine lv_iload_n E.1 E.2.1 dX9_chase_32 rfl (lv_at hl 3 rfl) ?_
        refine x_br hf (lv_icmp_eq (tgt := 49) E.1 E.2.1 dX9_chase_33 (by decide)) (fun hf => ?_) (fun hf => ?_)
        · refine lv_iconst (v := 0) E.1 E.2.1 dX9_chase_49 (by decide) ?_
          refine x_calli E h hl 0 hf (fun r0 Sq0 hr => c_X9_throwsOne__ l D cy s00 _ S 0 1 0 r0 Sq0 hr) m_X9_throwsOne__ rfl rfl kw1729 rfl rfl (Nat.le_of_ble_eq_true rfl) ⟨by decide, by decide⟩ ⟨Nat.zero_le _, Nat.zero_le _⟩ dX9_chase_50 (fun v48 S49 H locs hf h => ?_)
          refine x_br hf (lv_if_eq (tgt := 58) E.1 E.2.1 dX9_chase_53 (by decide)) (fun hf => ?_) (fun hf => ?_)
          · refine lv_aload_n E.1 E.2.1 dX9_chase_58 rfl (lv_at hl 1 rfl) ?_
            refine x_callv E h hl 0 hf (fun r0 hr => c_X9_begins l D cy s00 _ S49  r0 hr) m_X9_begins rfl rfl kw1705 rfl rfl (Nat.le_of_ble_eq_true rfl) ⟨by decide, by decide⟩ ⟨Nat.zero_le _, Nat.zero_le _⟩ dX9_chase_59 (fun S50 H locs hf h => ?_)
            refine lv_aload_n E.1 E.2.1 dX9_chase_62 rfl (lv_at hl 1 rfl) ?_
            refine lv_aload_n E.1 E.2.1 dX9_chase_63 rfl (lv_at hl 1 rfl) ?_
            refine lv_iload_n E.1 E.2.1 dX9_chase_64 rfl (lv_at hl 2 rfl) ?_
            refine lv_iload_n E.1 E.2.1 dX9_chase_65 rfl (lv_at hl 3 rfl) ?_
            refine x_calli E h hl 0 hf (fun r0 Sq0 hr => c_X9_chases l D cy s00 _ S50 p0 p1 r0 Sq0 hr) m_X9_chases rfl rfl kw1526 rfl rfl (Nat.le_of_ble_eq_true rfl) ⟨by decide, by decide⟩ ⟨Nat.zero_le _, Nat.zero_le _⟩ dX9_chase_66 (fun v51 S52 H locs hf h => ?_)
            refine x_br hf (lv_if_eq (tgt := 76) E.1 E.2.1 dX9_chase_69 (by decide)) (fun hf => ?_) (fun hf => ?_)
            · refine lv_iconst (v := 0) E.1 E.2.1 dX9_chase_76 (by decide) ?_
              refine x_calli E h hl 0 hf (fun r0 Sq0 hr => c_X9_remember l D cy s00 _ S52 0 r0 Sq0 hr) m_X9_remember rfl rfl kw1709 rfl rfl (Nat.le_of_ble_eq_true rfl) ⟨by decide, by decide⟩ ⟨Nat.zero_le _, Nat.zero_le _⟩ dX9_chase_77 (fun v53 S54 H locs hf h => ?_)
              refine lv_iconst (v := 1) E.1 E.2.1 dX9_chase_80 (by decide) ?_
              refine x_brn hf (lv_icmp_ne (tgt := 88) E.1 E.2.1 dX9_chase_81 (by decide)) (fun hf => ?_) (fun hf => ?_)
              · refine lv_iconst (v := 0) E.1 E.2.1 dX9_chase_88 (by decide) ?_
                exact x_zic E h (by decide) hf dX9_chase_89
              · refine lv_iconst (v := 1) E.1 E.2.1 dX9_chase_84 (by decide) ?_
                refine lv_goto (tgt := 89) E.1 E.2.1 dX9_chase_85 (by decide) ?_
                exact x_zic E h (by decide) hf dX9_chase_89
            · refine lv_iconst (v := 1) E.1 E.2.1 dX9_chase_72 (by decide) ?_
              refine lv_goto (tgt := 77) E.1 E.2.1 dX9_chase_73 (by decide) ?_
              refine x_calli E h hl 0 hf (fun r0 Sq0 hr => c_X9_remember l D cy s00 _ S52 1 r0 Sq0 hr) m_X9_remember rfl rfl kw1709 rfl rfl (Nat.le_of_ble_eq_true rfl) ⟨by decide, by decide⟩ ⟨Nat.zero_le _, Nat.zero_le _⟩ dX9_chase_77 (fun v55 S56 H locs hf h => ?_)
              refine lv_iconst (v := 1) E.1 E.2.1 dX9_chase_80 (by decide) ?_
              refine x_brn hf (lv_icmp_ne (tgt := 88) E.1 E.2.1 dX9_chase_81 (by decide)) (fun hf => ?_) (fun hf => ?_)
              · refine lv_iconst (v := 0) E.1 E.2.1 dX9_chase_88 (by decide) ?_
                exact x_zic E h (by decide) hf dX9_chase_89
              · refine lv_iconst (v := 1) E.1 E.2.1 dX9_chase_84 (by decide) ?_
                refine lv_goto (tgt := 89) E.1 E.2.1 dX9_chase_85 (by decide) ?_
                exact x_zic E h (by decide) hf dX9_chase_89
          · refine lv_iconst (v := 0) E.1 E.2.1 dX9_chase_56 (by decide) ?_
            exact x_zic E h (by decide) hf dX9_chase_57
        · refine lv_aload_n E.1 E.2.1 dX9_chase_36 rfl (lv_at hl 1 rfl) ?_
          refine lv_iload_n E.1 E.2.1 dX9_chase_37 rfl (lv_at hl 2 rfl) ?_
          refine lv_iload_n E.1 E.2.1 dX9_chase_38 rfl (lv_at hl 3 rfl) ?_
          refine x_callp E h hl 0 hf (fun r0 hr => c_X9_whySpares l D cy s00 _ S p0 p1 r0 hr) m_X9_whySpares rfl rfl kw1506 rfl rfl (Nat.le_of_ble_eq_true rfl) ⟨by decide, by decide⟩ ⟨Nat.zero_le _, Nat.zero_le _⟩ dX9_chase_39 (fun v57 H locs hf h => ?_)
          refine x_br hf (lv_if_eq (tgt := 49) E.1 E.2.1 dX9_chase_42 (by decide)) (fun hf => ?_) (fun hf => ?_)
          · refine lv_iconst (v := 0) E.1 E.2.1 dX9_chase_49 (by decide) ?_
            refine x_calli E h hl 0 hf (fun r0 Sq0 hr => c_X9_throwsOne__ l D cy s00 _ S 0 1 0 r0 Sq0 hr) m_X9_throwsOne__ rfl rfl kw1729 rfl rfl (Nat.le_of_ble_eq_true rfl) ⟨by decide, by decide⟩ ⟨Nat.zero_le _, Nat.zero_le _⟩ dX9_chase_50 (fun v58 S59 H locs hf h => ?_)
            refine x_br hf (lv_if_eq (tgt := 58) E.1 E.2.1 dX9_chase_53 (by decide)) (fun hf => ?_) (fun hf => ?_)
            · refine lv_aload_n E.1 E.2.1 dX9_chase_58 rfl (lv_at hl 1 rfl) ?_
              refine x_callv E h hl 0 hf (fun r0 hr => c_X9_begins l D cy s00 _ S59  r0 hr) m_X9_begins rfl rfl kw1705 rfl rfl (Nat.le_of_ble_eq_true rfl) ⟨by decide, by decide⟩ ⟨Nat.zero_le _, Nat.zero_le _⟩ dX9_chase_59 (fun S60 H locs hf h => ?_)
              refine lv_aload_n E.1 E.2.1 dX9_chase_62 rfl (lv_at hl 1 rfl) ?_
              refine lv_aload_n E.1 E.2.1 dX9_chase_63 rfl (lv_at hl 1 rfl) ?_
              refine lv_iload_n E.1 E.2.1 dX9_chase_64 rfl (lv_at hl 2 rfl) ?_
              refine lv_iload_n E.1 E.2.1 dX9_chase_65 rfl (lv_at hl 3 rfl) ?_
              refine x_calli E h hl 0 hf (fun r0 Sq0 hr => c_X9_chases l D cy s00 _ S60 p0 p1 r0 Sq0 hr) m_X9_chases rfl rfl kw1526 rfl rfl (Nat.le_of_ble_eq_true rfl) ⟨by decide, by decide⟩ ⟨Nat.zero_le _, Nat.zero_le _⟩ dX9_chase_66 (fun v61 S62 H locs hf h => ?_)
              refine x_br hf (lv_if_eq (tgt := 76) E.1 E.2.1 dX9_chase_69 (by decide)) (fun hf => ?_) (fun hf => ?_)
              · refine lv_iconst (v := 0) E.1 E.2.1 dX9_chase_76 (by decide) ?_
                refine x_calli E h hl 0 hf (fun r0 Sq0 hr => c_X9_remember l D cy s00 _ S62 0 r0 Sq0 hr) m_X9_remember rfl rfl kw1709 rfl rfl (Nat.le_of_ble_eq_true rfl) ⟨by decide, by decide⟩ ⟨Nat.zero_le _, Nat.zero_le _⟩ dX9_chase_77 (fun v63 S64 H locs hf h => ?_)
                refine lv_iconst (v := 1) E.1 E.2.1 dX9_chase_80 (by decide) ?_
                refine x_brn hf (lv_icmp_ne (tgt := 88) E.1 E.2.1 dX9_chase_81 (by decide)) (fun hf => ?_) (fun hf => ?_)
                · refine lv_iconst (v := 0) E.1 E.2.1 dX9_chase_88 (by decide) ?_
                  exact x_zic E h (by decide) hf dX9_chase_89
                · refine lv_iconst (v := 1) E.1 E.2.1 dX9_chase_84 (by decide) ?_
                  refine lv_goto (tgt := 89) E.1 E.2.1 dX9_chase_85 (by decide) ?_
                  exact x_zic E h (by decide) hf dX9_chase_89
              · refine lv_iconst (v := 1) E.1 E.2.1 dX9_chase_72 (by decide) ?_
                refine lv_goto (tgt := 77) E.1 E.2.1 dX9_chase_73 (by decide) ?_
                refine x_calli E h hl 0 hf (fun r0 Sq0 hr => c_X9_remember l D cy s00 _ S62 1 r0 Sq0 hr) m_X9_remember rfl rfl kw1709 rfl rfl (Nat.le_of_ble_eq_true rfl) ⟨by decide, by decide⟩ ⟨Nat.zero_le _, Nat.zero_le _⟩ dX9_chase_77 (fun v65 S66 H locs hf h => ?_)
                refine lv_iconst (v := 1) E.1 E.2.1 dX9_chase_80 (by decide) ?_
                refine x_brn hf (lv_icmp_ne (tgt := 88) E.1 E.2.1 dX9_chase_81 (by decide)) (fun hf => ?_) (fun hf => ?_)
                · refine lv_iconst (v := 0) E.1 E.2.1 dX9_chase_88 (by decide) ?_
                  exact x_zic E h (by decide) hf dX9_chase_89
                · refine lv_iconst (v := 1) E.1 E.2.1 dX9_chase_84 (by decide) ?_
                  refine lv_goto (tgt := 89) E.1 E.2.1 dX9_chase_85 (by decide) ?_
                  exact x_zic E h (by decide) hf dX9_chase_89
            · refine lv_iconst (v := 0) E.1 E.2.1 dX9_chase_56 (by decide) ?_
              exact x_zic E h (by decide) hf dX9_chase_57
          · refine lv_iconst (v := 1) E.1 E.2.1 dX9_chase_45 (by decide) ?_
            refine lv_goto (tgt := 50) E.1 E.2.1 dX9_chase_46 (by decide) ?_
            refine x_calli E h hl 0 hf (fun r0 Sq0 hr => c_X9_throwsOne__ l D cy s00 _ S 0 1 1 r0 Sq0 hr) m_X9_throwsOne__ rfl rfl kw1729 rfl rfl (Nat.le_of_ble_eq_true rfl) ⟨by decide, by decide⟩ ⟨Nat.zero_le _, Nat.zero_le _⟩ dX9_chase_50 (fun v67 S68 H locs hf h => ?_)
            refine x_br hf (lv_if_eq (tgt := 58) E.1 E.2.1 dX9_chase_53 (by decide)) (fun hf => ?_) (fun hf => ?_)
            · refine lv_aload_n E.1 E.2.1 dX9_chase_58 rfl (lv_at hl 1 rfl) ?_
              refine x_callv E h hl 0 hf (fun r0 hr => c_X9_begins l D cy s00 _ S68  r0 hr) m_X9_begins rfl rfl kw1705 rfl rfl (Nat.le_of_ble_eq_true rfl) ⟨by decide, by decide⟩ ⟨Nat.zero_le _, Nat.zero_le _⟩ dX9_chase_59 (fun S69 H locs hf h => ?_)
              refine lv_aload_n E.1 E.2.1 dX9_chase_62 rfl (lv_at hl 1 rfl) ?_
              refine lv_aload_n E.1 E.2.1 dX9_chase_63 rfl (lv_at hl 1 rfl) ?_
              refine lv_iload_n E.1 E.2.1 dX9_chase_64 rfl (lv_at hl 2 rfl) ?_
              refine lv_iload_n E.1 E.2.1 dX9_chase_65 rfl (lv_at hl 3 rfl) ?_
              refine x_calli E h hl 0 hf (fun r0 Sq0 hr => c_X9_chases l D cy s00 _ S69 p0 p1 r0 Sq0 hr) m_X9_chases rfl rfl kw1526 rfl rfl (Nat.le_of_ble_eq_true rfl) ⟨by decide, by decide⟩ ⟨Nat.zero_le _, Nat.zero_le _⟩ dX9_chase_66 (fun v70 S71 H locs hf h => ?_)
              refine x_br hf (lv_if_eq (tgt := 76) E.1 E.2.1 dX9_chase_69 (by decide)) (fun hf => ?_) (fun hf => ?_)
              · refine lv_iconst (v := 0) E.1 E.2.1 dX9_chase_76 (by decide) ?_
                refine x_calli E h hl 0 hf (fun r0 Sq0 hr => c_X9_remember l D cy s00 _ S71 0 r0 Sq0 hr) m_X9_remember rfl rfl kw1709 rfl rfl (Nat.le_of_ble_eq_true rfl) ⟨by decide, by decide⟩ ⟨Nat.zero_le _, Nat.zero_le _⟩ dX9_chase_77 (fun v72 S73 H locs hf h => ?_)
                refine lv_iconst (v := 1) E.1 E.2.1 dX9_chase_80 (by decide) ?_
                refine x_brn hf (lv_icmp_ne (tgt := 88) E.1 E.2.1 dX9_chase_81 (by decide)) (fun hf => ?_) (fun hf => ?_)
                · refine lv_iconst (v := 0) E.1 E.2.1 dX9_chase_88 (by decide) ?_
                  exact x_zic E h (by decide) hf dX9_chase_89
                · refine lv_iconst (v := 1) E.1 E.2.1 dX9_chase_84 (by decide) ?_
                  refine lv_goto (tgt := 89) E.1 E.2.1 dX9_chase_85 (by decide) ?_
                  exact x_zic E h (by decide) hf dX9_chase_89
              · refine lv_iconst (v := 1) E.1 E.2.1 dX9_chase_72 (by decide) ?_
                refine lv_goto (tgt := 77) E.1 E.2.1 dX9_chase_73 (by decide) ?_
                refine x_calli E h hl 0 hf (fun r0 Sq0 hr => c_X9_remember l D cy s00 _ S71 1 r0 Sq0 hr) m_X9_remember rfl rfl kw1709 rfl rfl (Nat.le_of_ble_eq_true rfl) ⟨by decide, by decide⟩ ⟨Nat.zero_le _, Nat.zero_le _⟩ dX9_chase_77 (fun v74 S75 H locs hf h => ?_)
                refine lv_iconst (v := 1) E.1 E.2.1 dX9_chase_80 (by decide) ?_
                refine x_brn hf (lv_icmp_ne (tgt := 88) E.1 E.2.1 dX9_chase_81 (by decide)) (fun hf => ?_) (fun hf => ?_)
                · refine lv_iconst (v := 0) E.1 E.2.1 dX9_chase_88 (by decide) ?_
                  exact x_zic E h (by decide) hf dX9_chase_89
                · refine lv_iconst (v := 1) E.1 E.2.1 dX9_chase_84 (by decide) ?_
                  refine lv_goto (tgt := 89) E.1 E.2.1 dX9_chase_85 (by decide) ?_
                  exact x_zic E h (by decide) hf dX9_chase_89
            · refine lv_iconst (v := 0) E.1 E.2.1 dX9_chase_56 (by decide) ?_
              exact x_zic E h (by decide) hf dX9_chase_57
  · refine lv_iconst (v := 1) E.1 E.2.1 dX9_chase_12 (by decide) ?_
    refine lv_goto (tgt := 17) E.1 E.2.1 dX9_chase_13 (by decide) ?_
    refine lv_iload_n E.1 E.2.1 dX9_chase_17 rfl (lv_at hl 2 rfl) ?_
    refine lv_iload_n E.1 E.2.1 dX9_chase_18 rfl (lv_at hl 3 rfl) ?_
    refine x_brn hf (lv_icmp_ne (tgt := 26) E.1 E.2.1 dX9_chase_19 (by decide)) (fun hf => ?_) (fun hf => ?_)
    · refine lv_iconst (v := 0) E.1 E.2.1 dX9_chase_26 (by decide) ?_
      refine lv_iload_n E.1 E.2.1 dX9_chase_27 rfl (lv_at hl 0 rfl) ?_
      refine x_br hf (lv_if_eq (tgt := 49) E.1 E.2.1 dX9_chase_28 (by decide)) (fun hf => ?_) (fun hf => ?_)
      · refine lv_iconst (v := 0) E.1 E.2.1 dX9_chase_49 (by decide) ?_
        refine x_calli E h hl 0 hf (fun r0 Sq0 hr => c_X9_throwsOne__ l D cy s00 _ S 1 0 0 r0 Sq0 hr) m_X9_throwsOne__ rfl rfl kw1729 rfl rfl (Nat.le_of_ble_eq_true rfl) ⟨by decide, by decide⟩ ⟨Nat.zero_le _, Nat.zero_le _⟩ dX9_chase_50 (fun v76 S77 H locs hf h => ?_)
        refine x_br hf (lv_if_eq (tgt := 58) E.1 E.2.1 dX9_chase_53 (by decide)) (fun hf => ?_) (fun hf => ?_)
        · refine lv_aload_n E.1 E.2.1 dX9_chase_58 rfl (lv_at hl 1 rfl) ?_
          refine x_callv E h hl 0 hf (fun r0 hr => c_X9_begins l D cy s00 _ S77  r0 hr) m_X9_begins rfl rfl kw1705 rfl rfl (Nat.le_of_ble_eq_true rfl) ⟨by decide, by decide⟩ ⟨Nat.zero_le _, Nat.zero_le _⟩ dX9_chase_59 (fun S78 H locs hf h => ?_)
          refine lv_aload_n E.1 E.2.1 dX9_chase_62 rfl (lv_at hl 1 rfl) ?_
          refine lv_aload_n E.1 E.2.1 dX9_chase_63 rfl (lv_at hl 1 rfl) ?_
          refine lv_iload_n E.1 E.2.1 dX9_chase_64 rfl (lv_at hl 2 rfl) ?_
          refine lv_iload_n E.1 E.2.1 dX9_chase_65 rfl (lv_at hl 3 rfl) ?_
          refine x_calli E h hl 0 hf (fun r0 Sq0 hr => c_X9_chases l D cy s00 _ S78 p0 p1 r0 Sq0 hr) m_X9_chases rfl rfl kw1526 rfl rfl (Nat.le_of_ble_eq_true rfl) ⟨by decide, by decide⟩ ⟨Nat.zero_le _, Nat.zero_le _⟩ dX9_chase_66 (fun v79 S80 H locs hf h => ?_)
          refine x_br hf (lv_if_eq (tgt := 76) E.1 E.2.1 dX9_chase_69 (by decide)) (fun hf => ?_) (fun hf => ?_)
          · refine lv_iconst (v := 0) E.1 E.2.1 dX9_chase_76 (by decide) ?_
            refine x_calli E h hl 0 hf (fun r0 Sq0 hr => c_X9_remember l D cy s00 _ S80 0 r0 Sq0 hr) m_X9_remember rfl rfl kw1709 rfl rfl (Nat.le_of_ble_eq_true rfl) ⟨by decide, by decide⟩ ⟨Nat.zero_le _, Nat.zero_le _⟩ dX9_chase_77 (fun v81 S82 H locs hf h => ?_)
            refine lv_iconst (v := 1) E.1 E.2.1 dX9_chase_80 (by decide) ?_
            refine x_brn hf (lv_icmp_ne (tgt := 88) E.1 E.2.1 dX9_chase_81 (by decide)) (fun hf => ?_) (fun hf => ?_)
            · refine lv_iconst (v := 0) E.1 E.2.1 dX9_chase_88 (by decide) ?_
              exact x_zic E h (by decide) hf dX9_chase_89
            · refine lv_iconst (v := 1) E.1 E.2.1 dX9_chase_84 (by decide) ?_
              refine lv_goto (tgt := 89) E.1 E.2.1 dX9_chase_85 (by decide) ?_
              exact x_zic E h (by decide) hf dX9_chase_89
          · refine lv_iconst (v := 1) E.1 E.2.1 dX9_chase_72 (by decide) ?_
            refine lv_goto (tgt := 77) E.1 E.2.1 dX9_chase_73 (by decide) ?_
            refine x_calli E h hl 0 hf (fun r0 Sq0 hr => c_X9_remember l D cy s00 _ S80 1 r0 Sq0 hr) m_X9_remember rfl rfl kw1709 rfl rfl (Nat.le_of_ble_eq_true rfl) ⟨by decide, by decide⟩ ⟨Nat.zero_le _, Nat.zero_le _⟩ dX9_chase_77 (fun v83 S84 H locs hf h => ?_)
            refine lv_iconst (v := 1) E.1 E.2.1 dX9_chase_80 (by decide) ?_
            refine x_brn hf (lv_icmp_ne (tgt := 88) E.1 E.2.1 dX9_chase_81 (by decide)) (fun hf => ?_) (fun hf => ?_)
            · refine lv_iconst (v := 0) E.1 E.2.1 dX9_chase_88 (by decide) ?_
              exact x_zic E h (by decide) hf dX9_chase_89
            · refine lv_iconst (v := 1) E.1 E.2.1 dX9_chase_84 (by decide) ?_
              refine lv_goto (tgt := 89) E.1 E.2.1 dX9_chase_85 (by decide) ?_
              exact x_zic E h (by decide) hf dX9_chase_89
        · refine lv_iconst (v := 0) E.1 E.2.1 dX9_chase_56 (by decide) ?_
          exact x_zic E h (by decide) hf dX9_chase_57
      · refine lv_iload_n E.1 E.2.1 dX9_chase_31 rfl (lv_at hl 2 rfl) ?_
        refine lv_iload_n E.1 E.2.1 dX9_chase_32 rfl (lv_at hl 3 rfl) ?_
        refine x_br hf (lv_icmp_eq (tgt := 49) E.1 E.2.1 dX9_chase_33 (by decide)) (fun hf => ?_) (fun hf => ?_)
        · refine lv_iconst (v := 0) E.1 E.2.1 dX9_chase_49 (by decide) ?_
          refine x_calli E h hl 0 hf (fun r0 Sq0 hr => c_X9_throwsOne__ l D cy s00 _ S 1 0 0 r0 Sq0 hr) m_X9_throwsOne__ rfl rfl kw1729 rfl rfl (Nat.le_of_ble_eq_true rfl) ⟨by decide, by decide⟩ ⟨Nat.zero_le _, Nat.zero_le _⟩ dX9_chase_50 (fun v85 S86 H locs hf h => ?_)
          refine x_br hf (lv_if_eq (tgt := 58) E.1 E.2.1 dX9_chase_53 (by decide)) (fun hf => ?_) (fun hf => ?_)
          · refine lv_aload_n E.1 E.2.1 dX9_chase_58 rfl (lv_at hl 1 rfl) ?_
            refine x_callv E h hl 0 hf (fun r0 hr => c_X9_begins l D cy s00 _ S86  r0 hr) m_X9_begins rfl rfl kw1705 rfl rfl (Nat.le_of_ble_eq_true rfl) ⟨by decide, by decide⟩ ⟨Nat.zero_le _, Nat.zero_le _⟩ dX9_chase_59 (fun S87 H locs hf h => ?_)
            refine lv_aload_n E.1 E.2.1 dX9_chase_62 rfl (lv_at hl 1 rfl) ?_
            refine lv_aload_n E.1 E.2.1 dX9_chase_63 rfl (lv_at hl 1 rfl) ?_
            refine lv_iload_n E.1 E.2.1 dX9_chase_64 rfl (lv_at hl 2 rfl) ?_
            refine lv_iload_n E.1 E.2.1 dX9_chase_65 rfl (lv_at hl 3 rfl) ?_
            refine x_calli E h hl 0 hf (fun r0 Sq0 hr => c_X9_chases l D cy s00 _ S87 p0 p1 r0 Sq0 hr) m_X9_chases rfl rfl kw1526 rfl rfl (Nat.le_of_ble_eq_true rfl) ⟨by decide, by decide⟩ ⟨Nat.zero_le _, Nat.zero_le _⟩ dX9_chase_66 (fun v88 S89 H locs hf h => ?_)
            refine x_br hf (lv_if_eq (tgt := 76) E.1 E.2.1 dX9_chase_69 (by decide)) (fun hf => ?_) (fun hf => ?_)
            · refine lv_iconst (v := 0) E.1 E.2.1 dX9_chase_76 (by decide) ?_
              refine x_calli E h hl 0 hf (fun r0 Sq0 hr => c_X9_remember l D cy s00 _ S89 0 r0 Sq0 hr) m_X9_remember rfl rfl kw1709 rfl rfl (Nat.le_of_ble_eq_true rfl) ⟨by decide, by decide⟩ ⟨Nat.zero_le _, Nat.zero_le _⟩ dX9_chase_77 (fun v90 S91 H locs hf h => ?_)
              refine lv_iconst (v := 1) E.1 E.2.1 dX9_chase_80 (by decide) ?_
              refine x_brn hf (lv_icmp_ne (tgt := 88) E.1 E.2.1 dX9_chase_81 (by decide)) (fun hf => ?_) (fun hf => ?_)
              · refine lv_iconst (v := 0) E.1 E.2.1 dX9_chase_88 (by decide) ?_
                exact x_zic E h (by decide) hf dX9_chase_89
              · refine lv_iconst (v := 1) E.1 E.2.1 dX9_chase_84 (by decide) ?_
                refine lv_goto (tgt := 89) E.1 E.2.1 dX9_chase_85 (by decide) ?_
                exact x_zic E h (by decide) hf dX9_chase_89
            · refine lv_iconst (v := 1) E.1 E.2.1 dX9_chase_72 (by decide) ?_
              refine lv_goto (tgt := 77) E.1 E.2.1 dX9_chase_73 (by decide) ?_
              refine x_calli E h hl 0 hf (fun r0 Sq0 hr => c_X9_remember l D cy s00 _ S89 1 r0 Sq0 hr) m_X9_remember rfl rfl kw1709 rfl rfl (Nat.le_of_ble_eq_true rfl) ⟨by decide, by decide⟩ ⟨Nat.zero_le _, Nat.zero_le _⟩ dX9_chase_77 (fun v92 S93 H locs hf h => ?_)
              refine lv_iconst (v := 1) E.1 E.2.1 dX9_chase_80 (by decide) ?_
              refine x_brn hf (lv_icmp_ne (tgt := 88) E.1 E.2.1 dX9_chase_81 (by decide)) (fun hf => ?_) (fun hf => ?_)
              · refine lv_iconst (v := 0) E.1 E.2.1 dX9_chase_88 (by decide) ?_
                exact x_zic E h (by decide) hf dX9_chase_89
              · refine lv_iconst (v := 1) E.1 E.2.1 dX9_chase_84 (by decide) ?_
                refine lv_goto (tgt := 89) E.1 E.2.1 dX9_chase_85 (by decide) ?_
                exact x_zic E h (by decide) hf dX9_chase_89
          · refine lv_iconst (v := 0) E.1 E.2.1 dX9_chase_56 (by decide) ?_
            exact x_zic E h (by decide) hf dX9_chase_57
        · refine lv_aload_n E.1 E.2.1 dX9_chase_36 rfl (lv_at hl 1 rfl) ?_
          refine lv_iload_n E.1 E.2.1 dX9_chase_37 rfl (lv_at hl 2 rfl) ?_
          refine lv_iload_n E.1 E.2.1 dX9_chase_38 rfl (lv_at hl 3 rfl) ?_
          refine x_callp E h hl 0 hf (fun r0 hr => c_X9_whySpares l D cy s00 _ S p0 p1 r0 hr) m_X9_whySpares rfl rfl kw1506 rfl rfl (Nat.le_of_ble_eq_true rfl) ⟨by decide, by decide⟩ ⟨Nat.zero_le _, Nat.zero_le _⟩ dX9_chase_39 (fun v94 H locs hf h => ?_)
          refine x_br hf (lv_if_eq (tgt := 49) E.1 E.2.1 dX9_chase_42 (by decide)) (fun hf => ?_) (fun hf => ?_)
          · refine lv_iconst (v := 0) E.1 E.2.1 dX9_chase_49 (by decide) ?_
            refine x_calli E h hl 0 hf (fun r0 Sq0 hr => c_X9_throwsOne__ l D cy s00 _ S 1 0 0 r0 Sq0 hr) m_X9_throwsOne__ rfl rfl kw1729 rfl rfl (Nat.le_of_ble_eq_true rfl) ⟨by decide, by decide⟩ ⟨Nat.zero_le _, Nat.zero_le _⟩ dX9_chase_50 (fun v95 S96 H locs hf h => ?_)
            refine x_br hf (lv_if_eq (tgt := 58) E.1 E.2.1 dX9_chase_53 (by decide)) (fun hf => ?_) (fun hf => ?_)
            · refine lv_aload_n E.1 E.2.1 dX9_chase_58 rfl (lv_at hl 1 rfl) ?_
              refine x_callv E h hl 0 hf (fun r0 hr => c_X9_begins l D cy s00 _ S96  r0 hr) m_X9_begins rfl rfl kw1705 rfl rfl (Nat.le_of_ble_eq_true rfl) ⟨by decide, by decide⟩ ⟨Nat.zero_le _, Nat.zero_le _⟩ dX9_chase_59 (fun S97 H locs hf h => ?_)
              refine lv_aload_n E.1 E.2.1 dX9_chase_62 rfl (lv_at hl 1 rfl) ?_
              refine lv_aload_n E.1 E.2.1 dX9_chase_63 rfl (lv_at hl 1 rfl) ?_
              refine lv_iload_n E.1 E.2.1 dX9_chase_64 rfl (lv_at hl 2 rfl) ?_
              refine lv_iload_n E.1 E.2.1 dX9_chase_65 rfl (lv_at hl 3 rfl) ?_
              refine x_calli E h hl 0 hf (fun r0 Sq0 hr => c_X9_chases l D cy s00 _ S97 p0 p1 r0 Sq0 hr) m_X9_chases rfl rfl kw1526 rfl rfl (Nat.le_of_ble_eq_true rfl) ⟨by decide, by decide⟩ ⟨Nat.zero_le _, Nat.zero_le _⟩ dX9_chase_66 (fun v98 S99 H locs hf h => ?_)
              refine x_br hf (lv_if_eq (tgt := 76) E.1 E.2.1 dX9_chase_69 (by decide)) (fun hf => ?_) (fun hf => ?_)
              · refine lv_iconst (v := 0) E.1 E.2.1 dX9_chase_76 (by decide) ?_
                refine x_calli E h hl 0 hf (fun r0 Sq0 hr => c_X9_remember l D cy s00 _ S99 0 r0 Sq0 hr) m_X9_remember rfl rfl kw1709 rfl rfl (Nat.le_of_ble_eq_true rfl) ⟨by decide, by decide⟩ ⟨Nat.zero_le _, Nat.zero_le _⟩ dX9_chase_77 (fun v100 S101 H locs hf h => ?_)
                refine lv_iconst (v := 1) E.1 E.2.1 dX9_chase_80 (by decide) ?_
                refine x_brn hf (lv_icmp_ne (tgt := 88) E.1 E.2.1 dX9_chase_81 (by decide)) (fun hf => ?_) (fun hf => ?_)
                · refine lv_iconst (v := 0) E.1 E.2.1 dX9_chase_88 (by decide) ?_
                  exact x_zic E h (by decide) hf dX9_chase_89
                · refine lv_iconst (v := 1) E.1 E.2.1 dX9_chase_84 (by decide) ?_
                  refine lv_goto (tgt := 89) E.1 E.2.1 dX9_chase_85 (by decide) ?_
                  exact x_zic E h (by decide) hf dX9_chase_89
              · refine lv_iconst (v := 1) E.1 E.2.1 dX9_chase_72 (by decide) ?_
                refine lv_goto (tgt := 77) E.1 E.2.1 dX9_chase_73 (by decide) ?_
                refine x_calli E h hl 0 hf (fun r0 Sq0 hr => c_X9_remember l D cy s00 _ S99 1 r0 Sq0 hr) m_X9_remember rfl rfl kw1709 rfl rfl (Nat.le_of_ble_eq_true rfl) ⟨by decide, by decide⟩ ⟨Nat.zero_le _, Nat.zero_le _⟩ dX9_chase_77 (fun v102 S103 H locs hf h => ?_)
                refine lv_iconst (v := 1) E.1 E.2.1 dX9_chase_80 (by decide) ?_
                refine x_brn hf (lv_icmp_ne (tgt := 88) E.1 E.2.1 dX9_chase_81 (by decide)) (fun hf => ?_) (fun hf => ?_)
                · refine lv_iconst (v := 0) E.1 E.2.1 dX9_chase_88 (by decide) ?_
                  exact x_zic E h (by decide) hf dX9_chase_89
                · refine lv_iconst (v := 1) E.1 E.2.1 dX9_chase_84 (by decide) ?_
                  refine lv_goto (tgt := 89) E.1 E.2.1 dX9_chase_85 (by decide) ?_
                  exact x_zic E h (by decide) hf dX9_chase_89
            · refine lv_iconst (v := 0) E.1 E.2.1 dX9_chase_56 (by decide) ?_
              exact x_zic E h (by decide) hf dX9_chase_57
          · refine lv_iconst (v := 1) E.1 E.2.1 dX9_chase_45 (by decide) ?_
            refine lv_goto (tgt := 50) E.1 E.2.1 dX9_chase_46 (by decide) ?_
            refine x_calli E h hl 0 hf (fun r0 Sq0 hr => c_X9_throwsOne__ l D cy s00 _ S 1 0 1 r0 Sq0 hr) m_X9_throwsOne__ rfl rfl kw1729 rfl rfl (Nat.le_of_ble_eq_true rfl) ⟨by decide, by decide⟩ ⟨Nat.zero_le _, Nat.zero_le _⟩ dX9_chase_50 (fun v104 S105 H locs hf h => ?_)
            refine x_br hf (lv_if_eq (tgt := 58) E.1 E.2.1 dX9_chase_53 (by decide)) (fun hf => ?_) (fun hf => ?_)
            · refine lv_aload_n E.1 E.2.1 dX9_chase_58 rfl (lv_at hl 1 rfl) ?_
              refine x_callv E h hl 0 hf (fun r0 hr => c_X9_begins l D cy s00 _ S105  r0 hr) m_X9_begins rfl rfl kw1705 rfl rfl (Nat.le_of_ble_eq_true rfl) ⟨by decide, by decide⟩ ⟨Nat.zero_le _, Nat.zero_le _⟩ dX9_chase_59 (fun S106 H locs hf h => ?_)
              refine lv_aload_n E.1 E.2.1 dX9_chase_62 rfl (lv_at hl 1 rfl) ?_
              refine lv_aload_n E.1 E.2.1 dX9_chase_63 rfl (lv_at hl 1 rfl) ?_
              refine lv_iload_n E.1 E.2.1 dX9_chase_64 rfl (lv_at hl 2 rfl) ?_
              refine lv_iload_n E.1 E.2.1 dX9_chase_65 rfl (lv_at hl 3 rfl) ?_
              refine x_calli E h hl 0 hf (fun r0 Sq0 hr => c_X9_chases l D cy s00 _ S106 p0 p1 r0 Sq0 hr) m_X9_chases rfl rfl kw1526 rfl rfl (Nat.le_of_ble_eq_true rfl) ⟨by decide, by decide⟩ ⟨Nat.zero_le _, Nat.zero_le _⟩ dX9_chase_66 (fun v107 S108 H locs hf h => ?_)
              refine x_br hf (lv_if_eq (tgt := 76) E.1 E.2.1 dX9_chase_69 (by decide)) (fun hf => ?_) (fun hf => ?_)
              · refine lv_iconst (v := 0) E.1 E.2.1 dX9_chase_76 (by decide) ?_
                refine x_calli E h hl 0 hf (fun r0 Sq0 hr => c_X9_remember l D cy s00 _ S108 0 r0 Sq0 hr) m_X9_remember rfl rfl kw1709 rfl rfl (Nat.le_of_ble_eq_true rfl) ⟨by decide, by decide⟩ ⟨Nat.zero_le _, Nat.zero_le _⟩ dX9_chase_77 (fun v109 S110 H locs hf h => ?_)
                refine lv_iconst (v := 1) E.1 E.2.1 dX9_chase_80 (by decide) ?_
                refine x_brn hf (lv_icmp_ne (tgt := 88) E.1 E.2.1 dX9_chase_81 (by decide)) (fun hf => ?_) (fun hf => ?_)
                · refine lv_iconst (v := 0) E.1 E.2.1 dX9_chase_88 (by decide) ?_
                  exact x_zic E h (by decide) hf dX9_chase_89
                · refine lv_iconst (v := 1) E.1 E.2.1 dX9_chase_84 (by decide) ?_
                  refine lv_goto (tgt := 89) E.1 E.2.1 dX9_chase_85 (by decide) ?_
                  exact x_zic E h (by decide) hf dX9_chase_89
              · refine lv_iconst (v := 1) E.1 E.2.1 dX9_chase_72 (by decide) ?_
                refine lv_goto (tgt := 77) E.1 E.2.1 dX9_chase_73 (by decide) ?_
                refine x_calli E h hl 0 hf (fun r0 Sq0 hr => c_X9_remember l D cy s00 _ S108 1 r0 Sq0 hr) m_X9_remember rfl rfl kw1709 rfl rfl (Nat.le_of_ble_eq_true rfl) ⟨by decide, by decide⟩ ⟨Nat.zero_le _, Nat.zero_le _⟩ dX9_chase_77 (fun v111 S112 H locs hf h => ?_)
                refine lv_iconst (v := 1) E.1 E.2.1 dX9_chase_80 (by decide) ?_
                refine x_brn hf (lv_icmp_ne (tgt := 88) E.1 E.2.1 dX9_chase_81 (by decide)) (fun hf => ?_) (fun hf => ?_)
                · refine lv_iconst (v := 0) E.1 E.2.1 dX9_chase_88 (by decide) ?_
                  exact x_zic E h (by decide) hf dX9_chase_89
                · refine lv_iconst (v := 1) E.1 E.2.1 dX9_chase_84 (by decide) ?_
                  refine lv_goto (tgt := 89) E.1 E.2.1 dX9_chase_85 (by decide) ?_
                  exact x_zic E h (by decide) hf dX9_chase_89
            · refine lv_iconst (v := 0) E.1 E.2.1 dX9_chase_56 (by decide) ?_
              exact x_zic E h (by decide) hf dX9_chase_57
    · refine lv_iconst (v := 1) E.1 E.2.1 dX9_chase_22 (by decide) ?_
      refine lv_goto (tgt := 27) E.1 E.2.1 dX9_chase_23 (by decide) ?_
      refine lv_iload_n E.1 E.2.1 dX9_chase_27 rfl (lv_at hl 0 rfl) ?_
      refine x_br hf (lv_if_eq (tgt := 49) E.1 E.2.1 dX9_chase_28 (by decide)) (fun hf => ?_) (fun hf => ?_)
      · refine lv_iconst (v := 0) E.1 E.2.1 dX9_chase_49 (by decide) ?_
        refine x_calli E h hl 0 hf (fun r0 Sq0 hr => c_X9_throwsOne__ l D cy s00 _ S 1 1 0 r0 Sq0 hr) m_X9_throwsOne__ rfl rfl kw1729 rfl rfl (Nat.le_of_ble_eq_true rfl) ⟨by decide, by decide⟩ ⟨Nat.zero_le _, Nat.zero_le _⟩ dX9_chase_50 (fun v113 S114 H locs hf h => ?_)
        refine x_br hf (lv_if_eq (tgt := 58) E.1 E.2.1 dX9_chase_53 (by decide)) (fun hf => ?_) (fun hf => ?_)
        · refine lv_aload_n E.1 E.2.1 dX9_chase_58 rfl (lv_at hl 1 rfl) ?_
          refine x_callv E h hl 0 hf (fun r0 hr => c_X9_begins l D cy s00 _ S114  r0 hr) m_X9_begins rfl rfl kw1705 rfl rfl (Nat.le_of_ble_eq_true rfl) ⟨by decide, by decide⟩ ⟨Nat.zero_le _, Nat.zero_le _⟩ dX9_chase_59 (fun S115 H locs hf h => ?_)
          refine lv_aload_n E.1 E.2.1 dX9_chase_62 rfl (lv_at hl 1 rfl) ?_
          refine lv_aload_n E.1 E.2.1 dX9_chase_63 rfl (lv_at hl 1 rfl) ?_
          refine lv_iload_n E.1 E.2.1 dX9_chase_64 rfl (lv_at hl 2 rfl) ?_
          refine lv_iload_n E.1 E.2.1 dX9_chase_65 rfl (lv_at hl 3 rfl) ?_
          refine x_calli E h hl 0 hf (fun r0 Sq0 hr => c_X9_chases l D cy s00 _ S115 p0 p1 r0 Sq0 hr) m_X9_chases rfl rfl kw1526 rfl rfl (Nat.le_of_ble_eq_true rfl) ⟨by decide, by decide⟩ ⟨Nat.zero_le _, Nat.zero_le _⟩ dX9_chase_66 (fun v116 S117 H locs hf h => ?_)
          refine x_br hf (lv_if_eq (tgt := 76) E.1 E.2.1 dX9_chase_69 (by decide)) (fun hf => ?_) (fun hf => ?_)
          · refine lv_iconst (v := 0) E.1 E.2.1 dX9_chase_76 (by decide) ?_
            refine x_calli E h hl 0 hf (fun r0 Sq0 hr => c_X9_remember l D cy s00 _ S117 0 r0 Sq0 hr) m_X9_remember rfl rfl kw1709 rfl rfl (Nat.le_of_ble_eq_true rfl) ⟨by decide, by decide⟩ ⟨Nat.zero_le _, Nat.zero_le _⟩ dX9_chase_77 (fun v118 S119 H locs hf h => ?_)
            refine lv_iconst (v := 1) E.1 E.2.1 dX9_chase_80 (by decide) ?_
            refine x_brn hf (lv_icmp_ne (tgt := 88) E.1 E.2.1 dX9_chase_81 (by decide)) (fun hf => ?_) (fun hf => ?_)
            · refine lv_iconst (v := 0) E.1 E.2.1 dX9_chase_88 (by decide) ?_
              exact x_zic E h (by decide) hf dX9_chase_89
            · refine lv_iconst (v := 1) E.1 E.2.1 dX9_chase_84 (by decide) ?_
              refine lv_goto (tgt := 89) E.1 E.2.1 dX9_chase_85 (by decide) ?_
              exact x_zic E h (by decide) hf dX9_chase_89
          · refine lv_iconst (v := 1) E.1 E.2.1 dX9_chase_72 (by decide) ?_
            refine lv_goto (tgt := 77) E.1 E.2.1 dX9_chase_73 (by decide) ?_
            refine x_calli E h hl 0 hf (fun r0 Sq0 hr => c_X9_remember l D cy s00 _ S117 1 r0 Sq0 hr) m_X9_remember rfl rfl kw1709 rfl rfl (Nat.le_of_ble_eq_true rfl) ⟨by decide, by decide⟩ ⟨Nat.zero_le _, Nat.zero_le _⟩ dX9_chase_77 (fun v120 S121 H locs hf h => ?_)
            refine lv_iconst (v := 1) E.1 E.2.1 dX9_chase_80 (by decide) ?_
            refine x_brn hf (lv_icmp_ne (tgt := 88) E.1 E.2.1 dX9_chase_81 (by decide)) (fun hf => ?_) (fun hf => ?_)
            · refine lv_iconst (v := 0) E.1 E.2.1 dX9_chase_88 (by decide) ?_
              exact x_zic E h (by decide) hf dX9_chase_89
            · refine lv_iconst (v := 1) E.1 E.2.1 dX9_chase_84 (by decide) ?_
              refine lv_goto (tgt := 89) E.1 E.2.1 dX9_chase_85 (by decide) ?_
              exact x_zic E h (by decide) hf dX9_chase_89
        · refine lv_iconst (v := 0) E.1 E.2.1 dX9_chase_56 (by decide) ?_
          exact x_zic E h (by decide) hf dX9_chase_57
      · refine lv_iload_n E.1 E.2.1 dX9_chase_31 rfl (lv_at hl 2 rfl) ?_
        refine lv_iload_n E.1 E.2.1 dX9_chase_32 rfl (lv_at hl 3 rfl) ?_
        refine x_br hf (lv_icmp_eq (tgt := 49) E.1 E.2.1 dX9_chase_33 (by decide)) (fun hf => ?_) (fun hf => ?_)
        · refine lv_iconst (v := 0) E.1 E.2.1 dX9_chase_49 (by decide) ?_
          refine x_calli E h hl 0 hf (fun r0 Sq0 hr => c_X9_throwsOne__ l D cy s00 _ S 1 1 0 r0 Sq0 hr) m_X9_throwsOne__ rfl rfl kw1729 rfl rfl (Nat.le_of_ble_eq_true rfl) ⟨by decide, by decide⟩ ⟨Nat.zero_le _, Nat.zero_le _⟩ dX9_chase_50 (fun v122 S123 H locs hf h => ?_)
          refine x_br hf (lv_if_eq (tgt := 58) E.1 E.2.1 dX9_chase_53 (by decide)) (fun hf => ?_) (fun hf => ?_)
          · refine lv_aload_n E.1 E.2.1 dX9_chase_58 rfl (lv_at hl 1 rfl) ?_
            refine x_callv E h hl 0 hf (fun r0 hr => c_X9_begins l D cy s00 _ S123  r0 hr) m_X9_begins rfl rfl kw1705 rfl rfl (Nat.le_of_ble_eq_true rfl) ⟨by decide, by decide⟩ ⟨Nat.zero_le _, Nat.zero_le _⟩ dX9_chase_59 (fun S124 H locs hf h => ?_)
            refine lv_aload_n E.1 E.2.1 dX9_chase_62 rfl (lv_at hl 1 rfl) ?_
            refine lv_aload_n E.1 E.2.1 dX9_chase_63 rfl (lv_at hl 1 rfl) ?_
            refine lv_iload_n E.1 E.2.1 dX9_chase_64 rfl (lv_at hl 2 rfl) ?_
            refine lv_iload_n E.1 E.2.1 dX9_chase_65 rfl (lv_at hl 3 rfl) ?_
            refine x_calli E h hl 0 hf (fun r0 Sq0 hr => c_X9_chases l D cy s00 _ S124 p0 p1 r0 Sq0 hr) m_X9_chases rfl rfl kw1526 rfl rfl (Nat.le_of_ble_eq_true rfl) ⟨by decide, by decide⟩ ⟨Nat.zero_le _, Nat.zero_le _⟩ dX9_chase_66 (fun v125 S126 H locs hf h => ?_)
            refine x_br hf (lv_if_eq (tgt := 76) E.1 E.2.1 dX9_chase_69 (by decide)) (fun hf => ?_) (fun hf => ?_)
            · refine lv_iconst (v := 0) E.1 E.2.1 dX9_chase_76 (by decide) ?_
              refine x_calli E h hl 0 hf (fun r0 Sq0 hr => c_X9_remember l D cy s00 _ S126 0 r0 Sq0 hr) m_X9_remember rfl rfl kw1709 rfl rfl (Nat.le_of_ble_eq_true rfl) ⟨by decide, by decide⟩ ⟨Nat.zero_le _, Nat.zero_le _⟩ dX9_chase_77 (fun v127 S128 H locs hf h => ?_)
              refine lv_iconst (v := 1) E.1 E.2.1 dX9_chase_80 (by decide) ?_
              refine x_brn hf (lv_icmp_ne (tgt := 88) E.1 E.2.1 dX9_chase_81 (by decide)) (fun hf => ?_) (fun hf => ?_)
              · refine lv_iconst (v := 0) E.1 E.2.1 dX9_chase_88 (by decide) ?_
                exact x_zic E h (by decide) hf dX9_chase_89
              · refine lv_iconst (v := 1) E.1 E.2.1 dX9_chase_84 (by decide) ?_
                refine lv_goto (tgt := 89) E.1 E.2.1 dX9_chase_85 (by decide) ?_
                exact x_zic E h (by decide) hf dX9_chase_89
            · refine lv_iconst (v := 1) E.1 E.2.1 dX9_chase_72 (by decide) ?_
              refine lv_goto (tgt := 77) E.1 E.2.1 dX9_chase_73 (by decide) ?_
              refine x_calli E h hl 0 hf (fun r0 Sq0 hr => c_X9_remember l D cy s00 _ S126 1 r0 Sq0 hr) m_X9_remember rfl rfl kw1709 rfl rfl (Nat.le_of_ble_eq_true rfl) ⟨by decide, by decide⟩ ⟨Nat.zero_le _, Nat.zero_le _⟩ dX9_chase_77 (fun v129 S130 H locs hf h => ?_)
              refine lv_iconst (v := 1) E.1 E.2.1 dX9_chase_80 (by decide) ?_
              refine x_brn hf (lv_icmp_ne (tgt := 88) E.1 E.2.1 dX9_chase_81 (by decide)) (fun hf => ?_) (fun hf => ?_)
              · refine lv_iconst (v := 0) E.1 E.2.1 dX9_chase_88 (by decide) ?_
                exact x_zic E h (by decide) hf dX9_chase_89
              · refine lv_iconst (v := 1) E.1 E.2.1 dX9_chase_84 (by decide) ?_
                refine lv_goto (tgt := 89) E.1 E.2.1 dX9_chase_85 (by decide) ?_
                exact x_zic E h (by decide) hf dX9_chase_89
          · refine lv_iconst (v := 0) E.1 E.2.1 dX9_chase_56 (by decide) ?_
            exact x_zic E h (by decide) hf dX9_chase_57
        · refine lv_aload_n E.1 E.2.1 dX9_chase_36 rfl (lv_at hl 1 rfl) ?_
          refine lv_iload_n E.1 E.2.1 dX9_chase_37 rfl (lv_at hl 2 rfl) ?_
          refine lv_iload_n E.1 E.2.1 dX9_chase_38 rfl (lv_at hl 3 rfl) ?_
          refine x_callp E h hl 0 hf (fun r0 hr => c_X9_whySpares l D cy s00 _ S p0 p1 r0 hr) m_X9_whySpares rfl rfl kw1506 rfl rfl (Nat.le_of_ble_eq_true rfl) ⟨by decide, by decide⟩ ⟨Nat.zero_le _, Nat.zero_le _⟩ dX9_chase_39 (fun v131 H locs hf h => ?_)
          refine x_br hf (lv_if_eq (tgt := 49) E.1 E.2.1 dX9_chase_42 (by decide)) (fun hf => ?_) (fun hf => ?_)
          · refine lv_iconst (v := 0) E.1 E.2.1 dX9_chase_49 (by decide) ?_
            refine x_calli E h hl 0 hf (fun r0 Sq0 hr => c_X9_throwsOne__ l D cy s00 _ S 1 1 0 r0 Sq0 hr) m_X9_throwsOne__ rfl rfl kw1729 rfl rfl (Nat.le_of_ble_eq_true rfl) ⟨by decide, by decide⟩ ⟨Nat.zero_le _, Nat.zero_le _⟩ dX9_chase_50 (fun v132 S133 H locs hf h => ?_)
            refine x_br hf (lv_if_eq (tgt := 58) E.1 E.2.1 dX9_chase_53 (by decide)) (fun hf => ?_) (fun hf => ?_)
            · refine lv_aload_n E.1 E.2.1 dX9_chase_58 rfl (lv_at hl 1 rfl) ?_
              refine x_callv E h hl 0 hf (fun r0 hr => c_X9_begins l D cy s00 _ S133  r0 hr) m_X9_begins rfl rfl kw1705 rfl rfl (Nat.le_of_ble_eq_true rfl) ⟨by decide, by decide⟩ ⟨Nat.zero_le _, Nat.zero_le _⟩ dX9_chase_59 (fun S134 H locs hf h => ?_)
              refine lv_aload_n E.1 E.2.1 dX9_chase_62 rfl (lv_at hl 1 rfl) ?_
              refine lv_aload_n E.1 E.2.1 dX9_chase_63 rfl (lv_at hl 1 rfl) ?_
              refine lv_iload_n E.1 E.2.1 dX9_chase_64 rfl (lv_at hl 2 rfl) ?_
              refine lv_iload_n E.1 E.2.1 dX9_chase_65 rfl (lv_at hl 3 rfl) ?_
              refine x_calli E h hl 0 hf (fun r0 Sq0 hr => c_X9_chases l D cy s00 _ S134 p0 p1 r0 Sq0 hr) m_X9_chases rfl rfl kw1526 rfl rfl (Nat.le_of_ble_eq_true rfl) ⟨by decide, by decide⟩ ⟨Nat.zero_le _, Nat.zero_le _⟩ dX9_chase_66 (fun v135 S136 H locs hf h => ?_)
              refine x_br hf (lv_if_eq (tgt := 76) E.1 E.2.1 dX9_chase_69 (by decide)) (fun hf => ?_) (fun hf => ?_)
              · refine lv_iconst (v := 0) E.1 E.2.1 dX9_chase_76 (by decide) ?_
                refine x_calli E h hl 0 hf (fun r0 Sq0 hr => c_X9_remember l D cy s00 _ S136 0 r0 Sq0 hr) m_X9_remember rfl rfl kw1709 rfl rfl (Nat.le_of_ble_eq_true rfl) ⟨by decide, by decide⟩ ⟨Nat.zero_le _, Nat.zero_le _⟩ dX9_chase_77 (fun v137 S138 H locs hf h => ?_)
                refine lv_iconst (v := 1) E.1 E.2.1 dX9_chase_80 (by decide) ?_
                refine x_brn hf (lv_icmp_ne (tgt := 88) E.1 E.2.1 dX9_chase_81 (by decide)) (fun hf => ?_) (fun hf => ?_)
                · refine lv_iconst (v := 0) E.1 E.2.1 dX9_chase_88 (by decide) ?_
                  exact x_zic E h (by decide) hf dX9_chase_89
                · refine lv_iconst (v := 1) E.1 E.2.1 dX9_chase_84 (by decide) ?_
                  refine lv_goto (tgt := 89) E.1 E.2.1 dX9_chase_85 (by decide) ?_
                  exact x_zic E h (by decide) hf dX9_chase_89
              · refine lv_iconst (v := 1) E.1 E.2.1 dX9_chase_72 (by decide) ?_
                refine lv_goto (tgt := 77) E.1 E.2.1 dX9_chase_73 (by decide) ?_
                refine x_calli E h hl 0 hf (fun r0 Sq0 hr => c_X9_remember l D cy s00 _ S136 1 r0 Sq0 hr) m_X9_remember rfl rfl kw1709 rfl rfl (Nat.le_of_ble_eq_true rfl) ⟨by decide, by decide⟩ ⟨Nat.zero_le _, Nat.zero_le _⟩ dX9_chase_77 (fun v139 S140 H locs hf h => ?_)
                refine lv_iconst (v := 1) E.1 E.2.1 dX9_chase_80 (by decide) ?_
                refine x_brn hf (lv_icmp_ne (tgt := 88) E.1 E.2.1 dX9_chase_81 (by decide)) (fun hf => ?_) (fun hf => ?_)
                · refine lv_iconst (v := 0) E.1 E.2.1 dX9_chase_88 (by decide) ?_
                  exact x_zic E h (by decide) hf dX9_chase_89
                · refine lv_iconst (v := 1) E.1 E.2.1 dX9_chase_84 (by decide) ?_
                  refine lv_goto (tgt := 89) E.1 E.2.1 dX9_chase_85 (by decide) ?_
                  exact x_zic E h (by decide) hf dX9_chase_89
            · refine lv_iconst (v := 0) E.1 E.2.1 dX9_chase_56 (by decide) ?_
              exact x_zic E h (by decide) hf dX9_chase_57
          · refine lv_iconst (v := 1) E.1 E.2.1 dX9_chase_45 (by decide) ?_
            refine lv_goto (tgt := 50) E.1 E.2.1 dX9_chase_46 (by decide) ?_
            refine x_calli E h hl 0 hf (fun r0 Sq0 hr => c_X9_throwsOne__ l D cy s00 _ S 1 1 1 r0 Sq0 hr) m_X9_throwsOne__ rfl rfl kw1729 rfl rfl (Nat.le_of_ble_eq_true rfl) ⟨by decide, by decide⟩ ⟨Nat.zero_le _, Nat.zero_le _⟩ dX9_chase_50 (fun v141 S142 H locs hf h => ?_)
            refine x_br hf (lv_if_eq (tgt := 58) E.1 E.2.1 dX9_chase_53 (by decide)) (fun hf => ?_) (fun hf => ?_)
            · refine lv_aload_n E.1 E.2.1 dX9_chase_58 rfl (lv_at hl 1 rfl) ?_
              refine x_callv E h hl 0 hf (fun r0 hr => c_X9_begins l D cy s00 _ S142  r0 hr) m_X9_begins rfl rfl kw1705 rfl rfl (Nat.le_of_ble_eq_true rfl) ⟨by decide, by decide⟩ ⟨Nat.zero_le _, Nat.zero_le _⟩ dX9_chase_59 (fun S143 H locs hf h => ?_)
              refine lv_aload_n E.1 E.2.1 dX9_chase_62 rfl (lv_at hl 1 rfl) ?_
              refine lv_aload_n E.1 E.2.1 dX9_chase_63 rfl (lv_at hl 1 rfl) ?_
              refine lv_iload_n E.1 E.2.1 dX9_chase_64 rfl (lv_at hl 2 rfl) ?_
              refine lv_iload_n E.1 E.2.1 dX9_chase_65 rfl (lv_at hl 3 rfl) ?_
              refine x_calli E h hl 0 hf (fun r0 Sq0 hr => c_X9_chases l D cy s00 _ S143 p0 p1 r0 Sq0 hr) m_X9_chases rfl rfl kw1526 rfl rfl (Nat.le_of_ble_eq_true rfl) ⟨by decide, by decide⟩ ⟨Nat.zero_le _, Nat.zero_le _⟩ dX9_chase_66 (fun v144 S145 H locs hf h => ?_)
              refine x_br hf (lv_if_eq (tgt := 76) E.1 E.2.1 dX9_chase_69 (by decide)) (fun hf => ?_) (fun hf => ?_)
              · refine lv_iconst (v := 0) E.1 E.2.1 dX9_chase_76 (by decide) ?_
                refine x_calli E h hl 0 hf (fun r0 Sq0 hr => c_X9_remember l D cy s00 _ S145 0 r0 Sq0 hr) m_X9_remember rfl rfl kw1709 rfl rfl (Nat.le_of_ble_eq_true rfl) ⟨by decide, by decide⟩ ⟨Nat.zero_le _, Nat.zero_le _⟩ dX9_chase_77 (fun v146 S147 H locs hf h => ?_)
                refine lv_iconst (v := 1) E.1 E.2.1 dX9_chase_80 (by decide) ?_
                refine x_brn hf (lv_icmp_ne (tgt := 88) E.1 E.2.1 dX9_chase_81 (by decide)) (fun hf => ?_) (fun hf => ?_)
                · refine lv_iconst (v := 0) E.1 E.2.1 dX9_chase_88 (by decide) ?_
                  exact x_zic E h (by decide) hf dX9_chase_89
                · refine lv_iconst (v := 1) E.1 E.2.1 dX9_chase_84 (by decide) ?_
                  refine lv_goto (tgt := 89) E.1 E.2.1 dX9_chase_85 (by decide) ?_
                  exact x_zic E h (by decide) hf dX9_chase_89
              · refine lv_iconst (v := 1) E.1 E.2.1 dX9_chase_72 (by decide) ?_
                refine lv_goto (tgt := 77) E.1 E.2.1 dX9_chase_73 (by decide) ?_
                refine x_calli E h hl 0 hf (fun r0 Sq0 hr => c_X9_remember l D cy s00 _ S145 1 r0 Sq0 hr) m_X9_remember rfl rfl kw1709 rfl rfl (Nat.le_of_ble_eq_true rfl) ⟨by decide, by decide⟩ ⟨Nat.zero_le _, Nat.zero_le _⟩ dX9_chase_77 (fun v148 S149 H locs hf h => ?_)
                refine lv_iconst (v := 1) E.1 E.2.1 dX9_chase_80 (by decide) ?_
                refine x_brn hf (lv_icmp_ne (tgt := 88) E.1 E.2.1 dX9_chase_81 (by decide)) (fun hf => ?_) (fun hf => ?_)
                · refine lv_iconst (v := 0) E.1 E.2.1 dX9_chase_88 (by decide) ?_
                  exact x_zic E h (by decide) hf dX9_chase_89
                · refine lv_iconst (v := 1) E.1 E.2.1 dX9_chase_84 (by decide) ?_
                  refine lv_goto (tgt := 89) E.1 E.2.1 dX9_chase_85 (by decide) ?_
                  exact x_zic E h (by decide) hf dX9_chase_89
            · refine lv_iconst (v := 0) E.1 E.2.1 dX9_chase_56 (by decide) ?_
              exact x_zic E h (by decide) hf dX9_chase_57
set_option maxHeartbeats 4000000 in
set_option maxRecDepth 100000 in
theorem c_X9_buyTruce (l : Launch) (D : va_G) (cy : Nat → ClassId) (s00 : State) (ad : Nat → Nat) (S : XS) (p0 p1 p2 p3 : Int32) (r9 : Int32) (S9 : XS) (hf : f_X9_buyTruce S p0 p1 p2 p3 = some (r9, S9)) : XI l yX9_buyTruce cX9_buyTruce 7 (some .int) 3 D cy s00 shMod ad S [.ref (ad 0), .int p0, .int p1, .int p2, .int p3] r9 S9 := by
  refine XI.of (by decide) [(0, .ref (ad 0)), (1, .int p0), (2, .int p1), (3, .int p2), (4, .int p3)] rfl (Nat.le_of_ble_eq_true rfl) (fun p e s m args below meth c A ls E h hl => ?_)
  unfold f_X9_buyTruce at hf
  refine lv_aload_n E.1 E.2.1 dX9_buyTruce_0 rfl (lv_at hl 0 rfl) ?_
  refine lv_iload_n E.1 E.2.1 dX9_buyTruce_1 rfl (lv_at hl 1 rfl) ?_
  refine lv_iload_n E.1 E.2.1 dX9_buyTruce_2 rfl (lv_at hl 2 rfl) ?_
  refine x_callp E h hl 0 hf (fun r0 hr => c_X9_areCats l D cy s00 _ S p0 p1 r0 hr) m_X9_areCats rfl rfl kw1764 rfl rfl (Nat.le_of_ble_eq_true rfl) ⟨by decide, by decide⟩ ⟨Nat.zero_le _, Nat.zero_le _⟩ dX9_buyTruce_3 (fun v1 H locs hf h => ?_)
  refine lv_istore (lv' := [(5, .int v1), (0, .ref (ad 0)), (1, .int p0), (2, .int p1), (3, .int p2), (4, .int p3)]) E.1 E.2.1 dX9_buyTruce_6 hl (by decide) rfl (fun ls hl => ?_)
  refine lv_iload_n E.1 E.2.1 dX9_buyTruce_8 rfl (lv_at hl 2 rfl) ?_
  refine lv_iload_n E.1 E.2.1 dX9_buyTruce_9 rfl (lv_at hl 3 rfl) ?_
  refine x_br hf (lv_icmp_eq (tgt := 34) E.1 E.2.1 dX9_buyTruce_10 (by decide)) (fun hf => ?_) (fun hf => ?_)
  · refine lv_iconst (v := 1) E.1 E.2.1 dX9_buyTruce_34 (by decide) ?_
    refine lv_goto (tgt := 39) E.1 E.2.1 dX9_buyTruce_35 (by decide) ?_
    refine lv_istore (lv' := [(6, .int 1), (5, .int v1), (0, .ref (ad 0)), (1, .int p0), (2, .int p1), (3, .int p2), (4, .int p3)]) E.1 E.2.1 dX9_buyTruce_39 hl (by decide) rfl (fun ls hl => ?_)
    refine lv_aload_n E.1 E.2.1 dX9_buyTruce_41 rfl (lv_at hl 2 rfl) ?_
    refine lv_iload E.1 E.2.1 dX9_buyTruce_42 (lv_at hl 1 rfl) ?_
    refine x_brn hf (lv_if_ne (tgt := 51) E.1 E.2.1 dX9_buyTruce_44 (by decide)) (fun hf => ?_) (fun hf => ?_)
    · refine lv_iconst (v := 0) E.1 E.2.1 dX9_buyTruce_51 (by decide) ?_
      refine lv_iload E.1 E.2.1 dX9_buyTruce_52 (lv_at hl 0 rfl) ?_
      refine lv_iload E.1 E.2.1 dX9_buyTruce_54 (lv_at hl 1 rfl) ?_
      refine x_br hf (lv_if_eq (tgt := 78) E.1 E.2.1 dX9_buyTruce_56 (by decide)) (fun hf => ?_) (fun hf => ?_)
      · refine lv_iconst (v := 0) E.1 E.2.1 dX9_buyTruce_78 (by decide) ?_
        refine x_calli E h hl 0 hf (fun r0 Sq0 hr => c_X9_throwsOne__ l D cy s00 _ S 0 1 0 r0 Sq0 hr) m_X9_throwsOne__ rfl rfl kw1729 rfl rfl (Nat.le_of_ble_eq_true rfl) ⟨by decide, by decide⟩ ⟨Nat.zero_le _, Nat.zero_le _⟩ dX9_buyTruce_79 (fun v2 S3 H locs hf h => ?_)
        refine x_br hf (lv_if_eq (tgt := 87) E.1 E.2.1 dX9_buyTruce_82 (by decide)) (fun hf => ?_) (fun hf => ?_)
        · refine lv_aload_n E.1 E.2.1 dX9_buyTruce_87 rfl (lv_at hl 2 rfl) ?_
          refine x_callv E h hl 0 hf (fun r0 hr => c_X9_begins l D cy s00 _ S3  r0 hr) m_X9_begins rfl rfl kw1705 rfl rfl (Nat.le_of_ble_eq_true rfl) ⟨by decide, by decide⟩ ⟨Nat.zero_le _, Nat.zero_le _⟩ dX9_buyTruce_88 (fun S4 H locs hf h => ?_)
          refine lv_aload_n E.1 E.2.1 dX9_buyTruce_91 rfl (lv_at hl 2 rfl) ?_
          refine lv_aload_n E.1 E.2.1 dX9_buyTruce_92 rfl (lv_at hl 2 rfl) ?_
          refine lv_iload_n E.1 E.2.1 dX9_buyTruce_93 rfl (lv_at hl 3 rfl) ?_
          refine lv_iload_n E.1 E.2.1 dX9_buyTruce_94 rfl (lv_at hl 4 rfl) ?_
          refine lv_iload_n E.1 E.2.1 dX9_buyTruce_95 rfl (lv_at hl 5 rfl) ?_
          refine lv_iload E.1 E.2.1 dX9_buyTruce_96 (lv_at hl 6 rfl) ?_
          refine x_calli E h hl 0 hf (fun r0 Sq0 hr => c_X9_buys l D cy s00 _ S4 p0 p1 p2 p3 r0 Sq0 hr) m_X9_buys rfl rfl kw1538 rfl rfl (Nat.le_of_ble_eq_true rfl) ⟨by decide, by decide⟩ ⟨Nat.zero_le _, Nat.zero_le _⟩ dX9_buyTruce_98 (fun v5 S6 H locs hf h => ?_)
          refine x_calli E h hl 0 hf (fun r0 Sq0 hr => c_X9_remember l D cy s00 _ S6 v5 r0 Sq0 hr) m_X9_remember rfl rfl kw1709 rfl rfl (Nat.le_of_ble_eq_true rfl) ⟨by decide, by decide⟩ ⟨Nat.zero_le _, Nat.zero_le _⟩ dX9_buyTruce_101 (fun v7 S8 H locs hf h => ?_)
          exact x_iret E h hf dX9_buyTruce_104
        · refine lv_iconst (v := 0) E.1 E.2.1 dX9_buyTruce_85 (by decide) ?_
          exact x_iret E h hf dX9_buyTruce_86
      · refine lv_iload E.1 E.2.1 dX9_buyTruce_59 (lv_at hl 0 rfl) ?_
        refine lv_if_ne (tgt := 78) E.1 E.2.1 dX9_buyTruce_61 (by decide) (fun _ => ?_) (fun c9 => absurd c9 (by decide))
        refine lv_iconst (v := 0) E.1 E.2.1 dX9_buyTruce_78 (by decide) ?_
        refine x_calli E h hl 0 hf (fun r0 Sq0 hr => c_X9_throwsOne__ l D cy s00 _ S 0 1 0 r0 Sq0 hr) m_X9_throwsOne__ rfl rfl kw1729 rfl rfl (Nat.le_of_ble_eq_true rfl) ⟨by decide, by decide⟩ ⟨Nat.zero_le _, Nat.zero_le _⟩ dX9_buyTruce_79 (fun v9 S10 H locs hf h => ?_)
        refine x_br hf (lv_if_eq (tgt := 87) E.1 E.2.1 dX9_buyTruce_82 (by decide)) (fun hf => ?_) (fun hf => ?_)
        · refine lv_aload_n E.1 E.2.1 dX9_buyTruce_87 rfl (lv_at hl 2 rfl) ?_
          refine x_callv E h hl 0 hf (fun r0 hr => c_X9_begins l D cy s00 _ S10  r0 hr) m_X9_begins rfl rfl kw1705 rfl rfl (Nat.le_of_ble_eq_true rfl) ⟨by decide, by decide⟩ ⟨Nat.zero_le _, Nat.zero_le _⟩ dX9_buyTruce_88 (fun S11 H locs hf h => ?_)
          refine lv_aload_n E.1 E.2.1 dX9_buyTruce_91 rfl (lv_at hl 2 rfl) ?_
          refine lv_aload_n E.1 E.2.1 dX9_buyTruce_92 rfl (lv_at hl 2 rfl) ?_
          refine lv_iload_n E.1 E.2.1 dX9_buyTruce_93 rfl (lv_at hl 3 rfl) ?_
          refine lv_iload_n E.1 E.2.1 dX9_buyTruce_94 rfl (lv_at hl 4 rfl) ?_
          refine lv_iload_n E.1 E.2.1 dX9_buyTruce_95 rfl (lv_at hl 5 rfl) ?_
          refine lv_iload E.1 E.2.1 dX9_buyTruce_96 (lv_at hl 6 rfl) ?_
          refine x_calli E h hl 0 hf (fun r0 Sq0 hr => c_X9_buys l D cy s00 _ S11 p0 p1 p2 p3 r0 Sq0 hr) m_X9_buys rfl rfl kw1538 rfl rfl (Nat.le_of_ble_eq_true rfl) ⟨by decide, by decide⟩ ⟨Nat.zero_le _, Nat.zero_le _⟩ dX9_buyTruce_98 (fun v12 S13 H locs hf h => ?_)
          refine x_calli E h hl 0 hf (fun r0 Sq0 hr => c_X9_remember l D cy s00 _ S13 v12 r0 Sq0 hr) m_X9_remember rfl rfl kw1709 rfl rfl (Nat.le_of_ble_eq_true rfl) ⟨by decide, by decide⟩ ⟨Nat.zero_le _, Nat.zero_le _⟩ dX9_buyTruce_101 (fun v14 S15 H locs hf h => ?_)
          exact x_iret E h hf dX9_buyTruce_104
        · refine lv_iconst (v := 0) E.1 E.2.1 dX9_buyTruce_85 (by decide) ?_
          exact x_iret E h hf dX9_buyTruce_86
    · refine lv_iconst (v := 1) E.1 E.2.1 dX9_buyTruce_47 (by decide) ?_
      refine lv_goto (tgt := 52) E.1 E.2.1 dX9_buyTruce_48 (by decide) ?_
      refine lv_iload E.1 E.2.1 dX9_buyTruce_52 (lv_at hl 0 rfl) ?_
      refine lv_iload E.1 E.2.1 dX9_buyTruce_54 (lv_at hl 1 rfl) ?_
      refine x_br hf (lv_if_eq (tgt := 78) E.1 E.2.1 dX9_buyTruce_56 (by decide)) (fun hf => ?_) (fun hf => ?_)
      · refine lv_iconst (v := 0) E.1 E.2.1 dX9_buyTruce_78 (by decide) ?_
        refine x_calli E h hl 0 hf (fun r0 Sq0 hr => c_X9_throwsOne__ l D cy s00 _ S 1 1 0 r0 Sq0 hr) m_X9_throwsOne__ rfl rfl kw1729 rfl rfl (Nat.le_of_ble_eq_true rfl) ⟨by decide, by decide⟩ ⟨Nat.zero_le _, Nat.zero_le _⟩ dX9_buyTruce_79 (fun v16 S17 H locs hf h => ?_)
        refine x_br hf (lv_if_eq (tgt := 87) E.1 E.2.1 dX9_buyTruce_82 (by decide)) (fun hf => ?_) (fun hf => ?_)
        · refine lv_aload_n E.1 E.2.1 dX9_buyTruce_87 rfl (lv_at hl 2 rfl) ?_
          refine x_callv E h hl 0 hf (fun r0 hr => c_X9_begins l D cy s00 _ S17  r0 hr) m_X9_begins rfl rfl kw1705 rfl rfl (Nat.le_of_ble_eq_true rfl) ⟨by decide, by decide⟩ ⟨Nat.zero_le _, Nat.zero_le _⟩ dX9_buyTruce_88 (fun S18 H locs hf h => ?_)
          refine lv_aload_n E.1 E.2.1 dX9_buyTruce_91 rfl (lv_at hl 2 rfl) ?_
          refine lv_aload_n E.1 E.2.1 dX9_buyTruce_92 rfl (lv_at hl 2 rfl) ?_
          refine lv_iload_n E.1 E.2.1 dX9_buyTruce_93 rfl (lv_at hl 3 rfl) ?_
          refine lv_iload_n E.1 E.2.1 dX9_buyTruce_94 rfl (lv_at hl 4 rfl) ?_
          refine lv_iload_n E.1 E.2.1 dX9_buyTruce_95 rfl (lv_at hl 5 rfl) ?_
          refine lv_iload E.1 E.2.1 dX9_buyTruce_96 (lv_at hl 6 rfl) ?_
          refine x_calli E h hl 0 hf (fun r0 Sq0 hr => c_X9_buys l D cy s00 _ S18 p0 p1 p2 p3 r0 Sq0 hr) m_X9_buys rfl rfl kw1538 rfl rfl (Nat.le_of_ble_eq_true rfl) ⟨by decide, by decide⟩ ⟨Nat.zero_le _, Nat.zero_le _⟩ dX9_buyTruce_98 (fun v19 S20 H locs hf h => ?_)
          refine x_calli E h hl 0 hf (fun r0 Sq0 hr => c_X9_remember l D cy s00 _ S20 v19 r0 Sq0 hr) m_X9_remember rfl rfl kw1709 rfl rfl (Nat.le_of_ble_eq_true rfl) ⟨by decide, by decide⟩ ⟨Nat.zero_le _, Nat.zero_le _⟩ dX9_buyTruce_101 (fun v21 S22 H locs hf h => ?_)
          exact x_iret E h hf dX9_buyTruce_104
        · refine lv_iconst (v := 0) E.1 E.2.1 dX9_buyTruce_85 (by decide) ?_
          exact x_iret E h hf dX9_buyTruce_86
      · refine lv_iload E.1 E.2.1 dX9_buyTruce_59 (lv_at hl 0 rfl) ?_
        refine lv_if_ne (tgt := 78) E.1 E.2.1 dX9_buyTruce_61 (by decide) (fun _ => ?_) (fun c9 => absurd c9 (by decide))
        refine lv_iconst (v := 0) E.1 E.2.1 dX9_buyTruce_78 (by decide) ?_
        refine x_calli E h hl 0 hf (fun r0 Sq0 hr => c_X9_throwsOne__ l D cy s00 _ S 1 1 0 r0 Sq0 hr) m_X9_throwsOne__ rfl rfl kw1729 rfl rfl (Nat.le_of_ble_eq_true rfl) ⟨by decide, by decide⟩ ⟨Nat.zero_le _, Nat.zero_le _⟩ dX9_buyTruce_79 (fun v23 S24 H locs hf h => ?_)
        refine x_br hf (lv_if_eq (tgt := 87) E.1 E.2.1 dX9_buyTruce_82 (by decide)) (fun hf => ?_) (fun hf => ?_)
        · refine lv_aload_n E.1 E.2.1 dX9_buyTruce_87 rfl (lv_at hl 2 rfl) ?_
          refine x_callv E h hl 0 hf (fun r0 hr => c_X9_begins l D cy s00 _ S24  r0 hr) m_X9_begins rfl rfl kw1705 rfl rfl (Nat.le_of_ble_eq_true rfl) ⟨by decide, by decide⟩ ⟨Nat.zero_le _, Nat.zero_le _⟩ dX9_buyTruce_88 (fun S25 H locs hf h => ?_)
          refine lv_aload_n E.1 E.2.1 dX9_buyTruce_91 rfl (lv_at hl 2 rfl) ?_
          refine lv_aload_n E.1 E.2.1 dX9_buyTruce_92 rfl (lv_at hl 2 rfl) ?_
          refine lv_iload_n E.1 E.2.1 dX9_buyTruce_93 rfl (lv_at hl 3 rfl) ?_
          refine lv_iload_n E.1 E.2.1 dX9_buyTruce_94 rfl (lv_at hl 4 rfl) ?_
          refine lv_iload_n E.1 E.2.1 dX9_buyTruce_95 rfl (lv_at hl 5 rfl) ?_
          refine lv_iload E.1 E.2.1 dX9_buyTruce_96 (lv_at hl 6 rfl) ?_
          refine x_calli E h hl 0 hf (fun r0 Sq0 hr => c_X9_buys l D cy s00 _ S25 p0 p1 p2 p3 r0 Sq0 hr) m_X9_buys rfl rfl kw1538 rfl rfl (Nat.le_of_ble_eq_true rfl) ⟨by decide, by decide⟩ ⟨Nat.zero_le _, Nat.zero_le _⟩ dX9_buyTruce_98 (fun v26 S27 H locs hf h => ?_)
          refine x_calli E h hl 0 hf (fun r0 Sq0 hr => c_X9_remember l D cy s00 _ S27 v26 r0 Sq0 hr) m_X9_remember rfl rfl kw1709 rfl rfl (Nat.le_of_ble_eq_true rfl) ⟨by decide, by decide⟩ ⟨Nat.zero_le _, Nat.zero_le _⟩ dX9_buyTruce_101 (fun v28 S29 H locs hf h => ?_)
          exact x_iret E h hf dX9_buyTruce_104
        · refine lv_iconst (v := 0) E.1 E.2.1 dX9_buyTruce_85 (by decide) ?_
          exact x_iret E h hf dX9_buyTruce_86
  · refine lv_iload_n E.1 E.2.1 dX9_buyTruce_13 rfl (lv_at hl 4 rfl) ?_
    refine lv_iconst (v := 1) E.1 E.2.1 dX9_buyTruce_14 (by decide) ?_
    refine lv_bipush (v := 9) E.1 E.2.1 dX9_buyTruce_15 (by decide) ?_
    refine x_callsp E h hl hf (fun r0 hr => c_X9_in l D cy s00 _ _ p2 1 9 r0 hr) m_X9_in kw1378 rfl rfl (Nat.le_of_ble_eq_true rfl) ⟨by decide, by decide⟩ ⟨Nat.zero_le _, Nat.zero_le _⟩ dX9_buyTruce_17 (fun v30 H locs hf h => ?_)
    refine x_br hf (lv_if_eq (tgt := 34) E.1 E.2.1 dX9_buyTruce_20 (by decide)) (fun hf => ?_) (fun hf => ?_)
    · refine lv_iconst (v := 1) E.1 E.2.1 dX9_buyTruce_34 (by decide) ?_
      refine lv_goto (tgt := 39) E.1 E.2.1 dX9_buyTruce_35 (by decide) ?_
      refine lv_istore (lv' := [(6, .int 1), (5, .int v1), (0, .ref (ad 0)), (1, .int p0), (2, .int p1), (3, .int p2), (4, .int p3)]) E.1 E.2.1 dX9_buyTruce_39 hl (by decide) rfl (fun ls hl => ?_)
      refine lv_aload_n E.1 E.2.1 dX9_buyTruce_41 rfl (lv_at hl 2 rfl) ?_
      refine lv_iload E.1 E.2.1 dX9_buyTruce_42 (lv_at hl 1 rfl) ?_
      refine x_brn hf (lv_if_ne (tgt := 51) E.1 E.2.1 dX9_buyTruce_44 (by decide)) (fun hf => ?_) (fun hf => ?_)
      · refine lv_iconst (v := 0) E.1 E.2.1 dX9_buyTruce_51 (by decide) ?_
        refine lv_iload E.1 E.2.1 dX9_buyTruce_52 (lv_at hl 0 rfl) ?_
        refine lv_iload E.1 E.2.1 dX9_buyTruce_54 (lv_at hl 1 rfl) ?_
        refine x_br hf (lv_if_eq (tgt := 78) E.1 E.2.1 dX9_buyTruce_56 (by decide)) (fun hf => ?_) (fun hf => ?_)
        · refine lv_iconst (v := 0) E.1 E.2.1 dX9_buyTruce_78 (by decide) ?_
          refine x_calli E h hl 0 hf (fun r0 Sq0 hr => c_X9_throwsOne__ l D cy s00 _ S 0 1 0 r0 Sq0 hr) m_X9_throwsOne__ rfl rfl kw1729 rfl rfl (Nat.le_of_ble_eq_true rfl) ⟨by decide, by decide⟩ ⟨Nat.zero_le _, Nat.zero_le _⟩ dX9_buyTruce_79 (fun v31 S32 H locs hf h => ?_)
          refine x_br hf (lv_if_eq (tgt := 87) E.1 E.2.1 dX9_buyTruce_82 (by decide)) (fun hf => ?_) (fun hf => ?_)
          · refine lv_aload_n E.1 E.2.1 dX9_buyTruce_87 rfl (lv_at hl 2 rfl) ?_
            refine x_callv E h hl 0 hf (fun r0 hr => c_X9_begins l D cy s00 _ S32  r0 hr) m_X9_begins rfl rfl kw1705 rfl rfl (Nat.le_of_ble_eq_true rfl) ⟨by decide, by decide⟩ ⟨Nat.zero_le _, Nat.zero_le _⟩ dX9_buyTruce_88 (fun S33 H locs hf h => ?_)
            refine lv_aload_n E.1 E.2.1 dX9_buyTruce_91 rfl (lv_at hl 2 rfl) ?_
            refine lv_aload_n E.1 E.2.1 dX9_buyTruce_92 rfl (lv_at hl 2 rfl) ?_
            refine lv_iload_n E.1 E.2.1 dX9_buyTruce_93 rfl (lv_at hl 3 rfl) ?_
            refine lv_iload_n E.1 E.2.1 dX9_buyTruce_94 rfl (lv_at hl 4 rfl) ?_
            refine lv_iload_n E.1 E.2.1 dX9_buyTruce_95 rfl (lv_at hl 5 rfl) ?_
            refine lv_iload E.1 E.2.1 dX9_buyTruce_96 (lv_at hl 6 rfl) ?_
            refine x_calli E h hl 0 hf (fun r0 Sq0 hr => c_X9_buys l D cy s00 _ S33 p0 p1 p2 p3 r0 Sq0 hr) m_X9_buys rfl rfl kw1538 rfl rfl (Nat.le_of_ble_eq_true rfl) ⟨by decide, by decide⟩ ⟨Nat.zero_le _, Nat.zero_le _⟩ dX9_buyTruce_98 (fun v34 S35 H locs hf h => ?_)
            refine x_calli E h hl 0 hf (fun r0 Sq0 hr => c_X9_remember l D cy s00 _ S35 v34 r0 Sq0 hr) m_X9_remember rfl rfl kw1709 rfl rfl (Nat.le_of_ble_eq_true rfl) ⟨by decide, by decide⟩ ⟨Nat.zero_le _, Nat.zero_le _⟩ dX9_buyTruce_101 (fun v36 S37 H locs hf h => ?_)
            exact x_iret E h hf dX9_buyTruce_104
          · refine lv_iconst (v := 0) E.1 E.2.1 dX9_buyTruce_85 (by decide) ?_
            exact x_iret E h hf dX9_buyTruce_86
        · refine lv_iload E.1 E.2.1 dX9_buyTruce_59 (lv_at hl 0 rfl) ?_
          refine lv_if_ne (tgt := 78) E.1 E.2.1 dX9_buyTruce_61 (by decide) (fun _ => ?_) (fun c9 => absurd c9 (by decide))
          refine lv_iconst (v := 0) E.1 E.2.1 dX9_buyTruce_78 (by decide) ?_
          refine x_calli E h hl 0 hf (fun r0 Sq0 hr => c_X9_throwsOne__ l D cy s00 _ S 0 1 0 r0 Sq0 hr) m_X9_throwsOne__ rfl rfl kw1729 rfl rfl (Nat.le_of_ble_eq_true rfl) ⟨by decide, by decide⟩ ⟨Nat.zero_le _, Nat.zero_le _⟩ dX9_buyTruce_79 (fun v38 S39 H locs hf h => ?_)
          refine x_br hf (lv_if_eq (tgt := 87) E.1 E.2.1 dX9_buyTruce_82 (by decide)) (fun hf => ?_) (fun hf => ?_)
          · refine lv_aload_n E.1 E.2.1 dX9_buyTruce_87 rfl (lv_at hl 2 rfl) ?_
            refine x_callv E h hl 0 hf (fun r0 hr => c_X9_begins l D cy s00 _ S39  r0 hr) m_X9_begins rfl rfl kw1705 rfl rfl (Nat.le_of_ble_eq_true rfl) ⟨by decide, by decide⟩ ⟨Nat.zero_le _, Nat.zero_le _⟩ dX9_buyTruce_88 (fun S40 H locs hf h => ?_)
            refine lv_aload_n E.1 E.2.1 dX9_buyTruce_91 rfl (lv_at hl 2 rfl) ?_
            refine lv_aload_n E.1 E.2.1 dX9_buyTruce_92 rfl (lv_at hl 2 rfl) ?_
            refine lv_iload_n E.1 E.2.1 dX9_buyTruce_93 rfl (lv_at hl 3 rfl) ?_
            refine lv_iload_n E.1 E.2.1 dX9_buyTruce_94 rfl (lv_at hl 4 rfl) ?_
            refine lv_iload_n E.1 E.2.1 dX9_buyTruce_95 rfl (lv_at hl 5 rfl) ?_
            refine lv_iload E.1 E.2.1 dX9_buyTruce_96 (lv_at hl 6 rfl) ?_
            refine x_calli E h hl 0 hf (fun r0 Sq0 hr => c_X9_buys l D cy s00 _ S40 p0 p1 p2 p3 r0 Sq0 hr) m_X9_buys rfl rfl kw1538 rfl rfl (Nat.le_of_ble_eq_true rfl) ⟨by decide, by decide⟩ ⟨Nat.zero_le _, Nat.zero_le _⟩ dX9_buyTruce_98 (fun v41 S42 H locs hf h => ?_)
            refine x_calli E h hl 0 hf (fun r0 Sq0 hr => c_X9_remember l D cy s00 _ S42 v41 r0 Sq0 hr) m_X9_remember rfl rfl kw1709 rfl rfl (Nat.le_of_ble_eq_true rfl) ⟨by decide, by decide⟩ ⟨Nat.zero_le _, Nat.zero_le _⟩ dX9_buyTruce_101 (fun v43 S44 H locs hf h => ?_)
            exact x_iret E h hf dX9_buyTruce_104
          · refine lv_iconst (v := 0) E.1 E.2.1 dX9_buyTruce_85 (by decide) ?_
            exact x_iret E h hf dX9_buyTruce_86
      · refine lv_iconst (v := 1) E.1 E.2.1 dX9_buyTruce_47 (by decide) ?_
        refine lv_goto (tgt := 52) E.1 E.2.1 dX9_buyTruce_48 (by decide) ?_
        refine lv_iload E.1 E.2.1 dX9_buyTruce_52 (lv_at hl 0 rfl) ?_
        refine lv_iload E.1 E.2.1 dX9_buyTruce_54 (lv_at hl 1 rfl) ?_
        refine x_br hf (lv_if_eq (tgt := 78) E.1 E.2.1 dX9_buyTruce_56 (by decide)) (fun hf => ?_) (fun hf => ?_)
        · refine lv_iconst (v := 0) E.1 E.2.1 dX9_buyTruce_78 (by decide) ?_
          refine x_calli E h hl 0 hf (fun r0 Sq0 hr => c_X9_throwsOne__ l D cy s00 _ S 1 1 0 r0 Sq0 hr) m_X9_throwsOne__ rfl rfl kw1729 rfl rfl (Nat.le_of_ble_eq_true rfl) ⟨by decide, by decide⟩ ⟨Nat.zero_le _, Nat.zero_le _⟩ dX9_buyTruce_79 (fun v45 S46 H locs hf h => ?_)
          refine x_br hf (lv_if_eq (tgt := 87) E.1 E.2.1 dX9_buyTruce_82 (by decide)) (fun hf => ?_) (fun hf => ?_)
          · refine lv_aload_n E.1 E.2.1 dX9_buyTruce_87 rfl (lv_at hl 2 rfl) ?_
            refine x_callv E h hl 0 hf (fun r0 hr => c_X9_begins l D cy s00 _ S46  r0 hr) m_X9_begins rfl rfl kw1705 rfl rfl (Nat.le_of_ble_eq_true rfl) ⟨by decide, by decide⟩ ⟨Nat.zero_le _, Nat.zero_le _⟩ dX9_buyTruce_88 (fun S47 H locs hf h => ?_)
            refine lv_aload_n E.1 E.2.1 dX9_buyTruce_91 rfl (lv_at hl 2 rfl) ?_
            refine lv_aload_n E.1 E.2.1 dX9_buyTruce_92 rfl (lv_at hl 2 rfl) ?_
            refine lv_iload_n E.1 E.2.1 dX9_buyTruce_93 rfl (lv_at hl 3 rfl) ?_
            refine lv_iload_n E.1 E.2.1 dX9_buyTruce_94 rfl (lv_at hl 4 rfl) ?_
            refine lv_iload_n E.1 E.2.1 dX9_buyTruce_95 rfl (lv_at hl 5 rfl) ?_
            refine lv_iload E.1 E.2.1 dX9_buyTruce_96 (lv_at hl 6 rfl) ?_
            refine x_calli E h hl 0 hf (fun r0 Sq0 hr => c_X9_buys l D cy s00 _ S47 p0 p1 p2 p3 r0 Sq0 hr) m_X9_buys rfl rfl kw1538 rfl rfl (Nat.le_of_ble_eq_true rfl) ⟨by decide, by decide⟩ ⟨Nat.zero_le _, Nat.zero_le _⟩ dX9_buyTruce_98 (fun v48 S49 H locs hf h => ?_)
            refine x_calli E h hl 0 hf (fun r0 Sq0 hr => c_X9_remember l D cy s00 _ S49 v48 r0 Sq0 hr) m_X9_remember rfl rfl kw1709 rfl rfl (Nat.le_of_ble_eq_true rfl) ⟨by decide, by decide⟩ ⟨Nat.zero_le _, Nat.zero_le _⟩ dX9_buyTruce_101 (fun v50 S51 H locs hf h => ?_)
            exact x_iret E h hf dX9_buyTruce_104
          · refine lv_iconst (v := 0) E.1 E.2.1 dX9_buyTruce_85 (by decide) ?_
            exact x_iret E h hf dX9_buyTruce_86
        · refine lv_iload E.1 E.2.1 dX9_buyTruce_59 (lv_at hl 0 rfl) ?_
          refine lv_if_ne (tgt := 78) E.1 E.2.1 dX9_buyTruce_61 (by decide) (fun _ => ?_) (fun c9 => absurd c9 (by decide))
          refine lv_iconst (v := 0) E.1 E.2.1 dX9_buyTruce_78 (by decide) ?_
          refine x_calli E h hl 0 hf (fun r0 Sq0 hr => c_X9_throwsOne__ l D cy s00 _ S 1 1 0 r0 Sq0 hr) m_X9_throwsOne__ rfl rfl kw1729 rfl rfl (Nat.le_of_ble_eq_true rfl) ⟨by decide, by decide⟩ ⟨Nat.zero_le _, Nat.zero_le _⟩ dX9_buyTruce_79 (fun v52 S53 H locs hf h => ?_)
          refine x_br hf (lv_if_eq (tgt := 87) E.1 E.2.1 dX9_buyTruce_82 (by decide)) (fun hf => ?_) (fun hf => ?_)
          · refine lv_aload_n E.1 E.2.1 dX9_buyTruce_87 rfl (lv_at hl 2 rfl) ?_
            refine x_callv E h hl 0 hf (fun r0 hr => c_X9_begins l D cy s00 _ S53  r0 hr) m_X9_begins rfl rfl kw1705 rfl rfl (Nat.le_of_ble_eq_true rfl) ⟨by decide, by decide⟩ ⟨Nat.zero_le _, Nat.zero_le _⟩ dX9_buyTruce_88 (fun S54 H locs hf h => ?_)
            refine lv_aload_n E.1 E.2.1 dX9_buyTruce_91 rfl (lv_at hl 2 rfl) ?_
            refine lv_aload_n E.1 E.2.1 dX9_buyTruce_92 rfl (lv_at hl 2 rfl) ?_
            refine lv_iload_n E.1 E.2.1 dX9_buyTruce_93 rfl (lv_at hl 3 rfl) ?_
            refine lv_iload_n E.1 E.2.1 dX9_buyTruce_94 rfl (lv_at hl 4 rfl) ?_
            refine lv_iload_n E.1 E.2.1 dX9_buyTruce_95 rfl (lv_at hl 5 rfl) ?_
            refine lv_iload E.1 E.2.1 dX9_buyTruce_96 (lv_at hl 6 rfl) ?_
            refine x_calli E h hl 0 hf (fun r0 Sq0 hr => c_X9_buys l D cy s00 _ S54 p0 p1 p2 p3 r0 Sq0 hr) m_X9_buys rfl rfl kw1538 rfl rfl (Nat.le_of_ble_eq_true rfl) ⟨by decide, by decide⟩ ⟨Nat.zero_le _, Nat.zero_le _⟩ dX9_buyTruce_98 (fun v55 S56 H locs hf h => ?_)
            refine x_calli E h hl 0 hf (fun r0 Sq0 hr => c_X9_remember l D cy s00 _ S56 v55 r0 Sq0 hr) m_X9_remember rfl rfl kw1709 rfl rfl (Nat.le_of_ble_eq_true rfl) ⟨by decide, by decide⟩ ⟨Nat.zero_le _, Nat.zero_le _⟩ dX9_buyTruce_101 (fun v57 S58 H locs hf h => ?_)
            exact x_iret E h hf dX9_buyTruce_104
          · refine lv_iconst (v := 0) E.1 E.2.1 dX9_buyTruce_85 (by decide) ?_
            exact x_iret E h hf dX9_buyTruce_86
    · refine lv_iload E.1 E.2.1 dX9_buyTruce_23 (lv_at hl 5 rfl) ?_
      refine lv_iconst (v := 1) E.1 E.2.1 dX9_buyTruce_25 (by decide) ?_
      refine lv_bipush (v := 20) E.1 E.2.1 dX9_buyTruce_26 (by decide) ?_
      refine x_callsp E h hl hf (fun r0 hr => c_X9_in l D cy s00 _ _ p3 1 20 r0 hr) m_X9_in kw1378 rfl rfl (Nat.le_of_ble_eq_true rfl) ⟨by decide, by decide⟩ ⟨Nat.zero_le _, Nat.zero_le _⟩ dX9_buyTruce_28 (fun v59 H locs hf h => ?_)
      refine x_brn hf (lv_if_ne (tgt := 38) E.1 E.2.1 dX9_buyTruce_31 (by decide)) (fun hf => ?_) (fun hf => ?_)
      · refine lv_iconst (v := 0) E.1 E.2.1 dX9_buyTruce_38 (by decide) ?_
        refine lv_istore (lv' := [(6, .int 0), (5, .int v1), (0, .ref (ad 0)), (1, .int p0), (2, .int p1), (3, .int p2), (4, .int p3)]) E.1 E.2.1 dX9_buyTruce_39 hl (by decide) rfl (fun ls hl => ?_)
        refine lv_aload_n E.1 E.2.1 dX9_buyTruce_41 rfl (lv_at hl 2 rfl) ?_
        refine lv_iload E.1 E.2.1 dX9_buyTruce_42 (lv_at hl 1 rfl) ?_
        refine x_brn hf (lv_if_ne (tgt := 51) E.1 E.2.1 dX9_buyTruce_44 (by decide)) (fun hf => ?_) (fun hf => ?_)
        · refine lv_iconst (v := 0) E.1 E.2.1 dX9_buyTruce_51 (by decide) ?_
          refine lv_iload E.1 E.2.1 dX9_buyTruce_52 (lv_at hl 0 rfl) ?_
          refine lv_iload E.1 E.2.1 dX9_buyTruce_54 (lv_at hl 1 rfl) ?_
          refine x_br hf (lv_if_eq (tgt := 78) E.1 E.2.1 dX9_buyTruce_56 (by decide)) (fun hf => ?_) (fun hf => ?_)
          · refine lv_iconst (v := 0) E.1 E.2.1 dX9_buyTruce_78 (by decide) ?_
            refine x_calli E h hl 0 hf (fun r0 Sq0 hr => c_X9_throwsOne__ l D cy s00 _ S 0 0 0 r0 Sq0 hr) m_X9_throwsOne__ rfl rfl kw1729 rfl rfl (Nat.le_of_ble_eq_true rfl) ⟨by decide, by decide⟩ ⟨Nat.zero_le _, Nat.zero_le _⟩ dX9_buyTruce_79 (fun v60 S61 H locs hf h => ?_)
            refine x_br hf (lv_if_eq (tgt := 87) E.1 E.2.1 dX9_buyTruce_82 (by decide)) (fun hf => ?_) (fun hf => ?_)
            · refine lv_aload_n E.1 E.2.1 dX9_buyTruce_87 rfl (lv_at hl 2 rfl) ?_
              refine x_callv E h hl 0 hf (fun r0 hr => c_X9_begins l D cy s00 _ S61  r0 hr) m_X9_begins rfl rfl kw1705 rfl rfl (Nat.le_of_ble_eq_true rfl) ⟨by decide, by decide⟩ ⟨Nat.zero_le _, Nat.zero_le _⟩ dX9_buyTruce_88 (fun S62 H locs hf h => ?_)
              refine lv_aload_n E.1 E.2.1 dX9_buyTruce_91 rfl (lv_at hl 2 rfl) ?_
              refine lv_aload_n E.1 E.2.1 dX9_buyTruce_92 rfl (lv_at hl 2 rfl) ?_
              refine lv_iload_n E.1 E.2.1 dX9_buyTruce_93 rfl (lv_at hl 3 rfl) ?_
              refine lv_iload_n E.1 E.2.1 dX9_buyTruce_94 rfl (lv_at hl 4 rfl) ?_
              refine lv_iload_n E.1 E.2.1 dX9_buyTruce_95 rfl (lv_at hl 5 rfl) ?_
              refine lv_iload E.1 E.2.1 dX9_buyTruce_96 (lv_at hl 6 rfl) ?_
              refine x_calli E h hl 0 hf (fun r0 Sq0 hr => c_X9_buys l D cy s00 _ S62 p0 p1 p2 p3 r0 Sq0 hr) m_X9_buys rfl rfl kw1538 rfl rfl (Nat.le_of_ble_eq_true rfl) ⟨by decide, by decide⟩ ⟨Nat.zero_le _, Nat.zero_le _⟩ dX9_buyTruce_98 (fun v63 S64 H locs hf h => ?_)
              refine x_calli E h hl 0 hf (fun r0 Sq0 hr => c_X9_remember l D cy s00 _ S64 v63 r0 Sq0 hr) m_X9_remember rfl rfl kw1709 rfl rfl (Nat.le_of_ble_eq_true rfl) ⟨by decide, by decide⟩ ⟨Nat.zero_le _, Nat.zero_le _⟩ dX9_buyTruce_101 (fun v65 S66 H locs hf h => ?_)
              exact x_iret E h hf dX9_buyTruce_104
            · refine lv_iconst (v := 0) E.1 E.2.1 dX9_buyTruce_85 (by decide) ?_
              exact x_iret E h hf dX9_buyTruce_86
          · refine lv_iload E.1 E.2.1 dX9_buyTruce_59 (lv_at hl 0 rfl) ?_
            refine lv_if_ne (tgt := 78) E.1 E.2.1 dX9_buyTruce_61 (by decide) (fun c9 => absurd c9 (by decide)) (fun _ => ?_)
            refine lv_aload_n E.1 E.2.1 dX9_buyTruce_64 rfl (lv_at hl 2 rfl) ?_
            refine lv_iload_n E.1 E.2.1 dX9_buyTruce_65 rfl (lv_at hl 3 rfl) ?_
            refine lv_iload_n E.1 E.2.1 dX9_buyTruce_66 rfl (lv_at hl 4 rfl) ?_
            refine lv_iload_n E.1 E.2.1 dX9_buyTruce_67 rfl (lv_at hl 5 rfl) ?_
            refine x_callp E h hl 0 hf (fun r0 hr => c_X9_canBuy l D cy s00 _ S p0 p1 p2 r0 hr) m_X9_canBuy rfl rfl kw1534 rfl rfl (Nat.le_of_ble_eq_true rfl) ⟨by decide, by decide⟩ ⟨Nat.zero_le _, Nat.zero_le _⟩ dX9_buyTruce_68 (fun v67 H locs hf h => ?_)
            refine x_brn hf (lv_if_ne (tgt := 78) E.1 E.2.1 dX9_buyTruce_71 (by decide)) (fun hf => ?_) (fun hf => ?_)
            · refine lv_iconst (v := 0) E.1 E.2.1 dX9_buyTruce_78 (by decide) ?_
              refine x_calli E h hl 0 hf (fun r0 Sq0 hr => c_X9_throwsOne__ l D cy s00 _ S 0 0 0 r0 Sq0 hr) m_X9_throwsOne__ rfl rfl kw1729 rfl rfl (Nat.le_of_ble_eq_true rfl) ⟨by decide, by decide⟩ ⟨Nat.zero_le _, Nat.zero_le _⟩ dX9_buyTruce_79 (fun v68 S69 H locs hf h => ?_)
              refine x_br hf (lv_if_eq (tgt := 87) E.1 E.2.1 dX9_buyTruce_82 (by decide)) (fun hf => ?_) (fun hf => ?_)
              · refine lv_aload_n E.1 E.2.1 dX9_buyTruce_87 rfl (lv_at hl 2 rfl) ?_
                refine x_callv E h hl 0 hf (fun r0 hr => c_X9_begins l D cy s00 _ S69  r0 hr) m_X9_begins rfl rfl kw1705 rfl rfl (Nat.le_of_ble_eq_true rfl) ⟨by decide, by decide⟩ ⟨Nat.zero_le _, Nat.zero_le _⟩ dX9_buyTruce_88 (fun S70 H locs hf h => ?_)
                refine lv_aload_n E.1 E.2.1 dX9_buyTruce_91 rfl (lv_at hl 2 rfl) ?_
                refine lv_aload_n E.1 E.2.1 dX9_buyTruce_92 rfl (lv_at hl 2 rfl) ?_
                refine lv_iload_n E.1 E.2.1 dX9_buyTruce_93 rfl (lv_at hl 3 rfl) ?_
                refine lv_iload_n E.1 E.2.1 dX9_buyTruce_94 rfl (lv_at hl 4 rfl) ?_
                refine lv_iload_n E.1 E.2.1 dX9_buyTruce_95 rfl (lv_at hl 5 rfl) ?_
                refine lv_iload E.1 E.2.1 dX9_buyTruce_96 (lv_at hl 6 rfl) ?_
                refine x_calli E h hl 0 hf (fun r0 Sq0 hr => c_X9_buys l D cy s00 _ S70 p0 p1 p2 p3 r0 Sq0 hr) m_X9_buys rfl rfl kw1538 rfl rfl (Nat.le_of_ble_eq_true rfl) ⟨by decide, by decide⟩ ⟨Nat.zero_le _, Nat.zero_le _⟩ dX9_buyTruce_98 (fun v71 S72 H locs hf h => ?_)
                refine x_calli E h hl 0 hf (fun r0 Sq0 hr => c_X9_remember l D cy s00 _ S72 v71 r0 Sq0 hr) m_X9_remember rfl rfl kw1709 rfl rfl (Nat.le_of_ble_eq_true rfl) ⟨by decide, by decide⟩ ⟨Nat.zero_le _, Nat.zero_le _⟩ dX9_buyTruce_101 (fun v73 S74 H locs hf h => ?_)
                exact x_iret E h hf dX9_buyTruce_104
              · refine lv_iconst (v := 0) E.1 E.2.1 dX9_buyTruce_85 (by decide) ?_
                exact x_iret E h hf dX9_buyTruce_86
            · refine lv_iconst (v := 1) E.1 E.2.1 dX9_buyTruce_74 (by decide) ?_
              refine lv_goto (tgt := 79) E.1 E.2.1 dX9_buyTruce_75 (by decide) ?_
              refine x_calli E h hl 0 hf (fun r0 Sq0 hr => c_X9_throwsOne__ l D cy s00 _ S 0 0 1 r0 Sq0 hr) m_X9_throwsOne__ rfl rfl kw1729 rfl rfl (Nat.le_of_ble_eq_true rfl) ⟨by decide, by decide⟩ ⟨Nat.zero_le _, Nat.zero_le _⟩ dX9_buyTruce_79 (fun v75 S76 H locs hf h => ?_)
              refine x_br hf (lv_if_eq (tgt := 87) E.1 E.2.1 dX9_buyTruce_82 (by decide)) (fun hf => ?_) (fun hf => ?_)
              · refine lv_aload_n E.1 E.2.1 dX9_buyTruce_87 rfl (lv_at hl 2 rfl) ?_
                refine x_callv E h hl 0 hf (fun r0 hr => c_X9_begins l D cy s00 _ S76  r0 hr) m_X9_begins rfl rfl kw1705 rfl rfl (Nat.le_of_ble_eq_true rfl) ⟨by decide, by decide⟩ ⟨Nat.zero_le _, Nat.zero_le _⟩ dX9_buyTruce_88 (fun S77 H locs hf h => ?_)
                refine lv_aload_n E.1 E.2.1 dX9_buyTruce_91 rfl (lv_at hl 2 rfl) ?_
                refine lv_aload_n E.1 E.2.1 dX9_buyTruce_92 rfl (lv_at hl 2 rfl) ?_
                refine lv_iload_n E.1 E.2.1 dX9_buyTruce_93 rfl (lv_at hl 3 rfl) ?_
                refine lv_iload_n E.1 E.2.1 dX9_buyTruce_94 rfl (lv_at hl 4 rfl) ?_
                refine lv_iload_n E.1 E.2.1 dX9_buyTruce_95 rfl (lv_at hl 5 rfl) ?_
                refine lv_iload E.1 E.2.1 dX9_buyTruce_96 (lv_at hl 6 rfl) ?_
                refine x_calli E h hl 0 hf (fun r0 Sq0 hr => c_X9_buys l D cy s00 _ S77 p0 p1 p2 p3 r0 Sq0 hr) m_X9_buys rfl rfl kw1538 rfl rfl (Nat.le_of_ble_eq_true rfl) ⟨by decide, by decide⟩ ⟨Nat.zero_le _, Nat.zero_le _⟩ dX9_buyTruce_98 (fun v78 S79 H locs hf h => ?_)
                refine x_calli E h hl 0 hf (fun r0 Sq0 hr => c_X9_remember l D cy s00 _ S79 v78 r0 Sq0 hr) m_X9_remember rfl rfl kw1709 rfl rfl (Nat.le_of_ble_eq_true rfl) ⟨by decide, by decide⟩ ⟨Nat.zero_le _, Nat.zero_le _⟩ dX9_buyTruce_101 (fun v80 S81 H locs hf h => ?_)
                exact x_iret E h hf dX9_buyTruce_104
              · refine lv_iconst (v := 0) E.1 E.2.1 dX9_buyTruce_85 (by decide) ?_
                exact x_iret E h hf dX9_buyTruce_86
        · refine lv_iconst (v := 1) E.1 E.2.1 dX9_buyTruce_47 (by decide) ?_
          refine lv_goto (tgt := 52) E.1 E.2.1 dX9_buyTruce_48 (by decide) ?_
          refine lv_iload E.1 E.2.1 dX9_buyTruce_52 (lv_at hl 0 rfl) ?_
          refine lv_iload E.1 E.2.1 dX9_buyTruce_54 (lv_at hl 1 rfl) ?_
          refine x_br hf (lv_if_eq (tgt := 78) E.1 E.2.1 dX9_buyTruce_56 (by decide)) (fun hf => ?_) (fun hf => ?_)
          · refine lv_iconst (v := 0) E.1 E.2.1 dX9_buyTruce_78 (by decide) ?_
            refine x_calli E h hl 0 hf (fun r0 Sq0 hr => c_X9_throwsOne__ l D cy s00 _ S 1 0 0 r0 Sq0 hr) m_X9_throwsOne__ rfl rfl kw1729 rfl rfl (Nat.le_of_ble_eq_true rfl) ⟨by decide, by decide⟩ ⟨Nat.zero_le _, Nat.zero_le _⟩ dX9_buyTruce_79 (fun v82 S83 H locs hf h => ?_)
            refine x_br hf (lv_if_eq (tgt := 87) E.1 E.2.1 dX9_buyTruce_82 (by decide)) (fun hf => ?_) (fun hf => ?_)
            · refine lv_aload_n E.1 E.2.1 dX9_buyTruce_87 rfl (lv_at hl 2 rfl) ?_
              refine x_callv E h hl 0 hf (fun r0 hr => c_X9_begins l D cy s00 _ S83  r0 hr) m_X9_begins rfl rfl kw1705 rfl rfl (Nat.le_of_ble_eq_true rfl) ⟨by decide, by decide⟩ ⟨Nat.zero_le _, Nat.zero_le _⟩ dX9_buyTruce_88 (fun S84 H locs hf h => ?_)
              refine lv_aload_n E.1 E.2.1 dX9_buyTruce_91 rfl (lv_at hl 2 rfl) ?_
              refine lv_aload_n E.1 E.2.1 dX9_buyTruce_92 rfl (lv_at hl 2 rfl) ?_
              refine lv_iload_n E.1 E.2.1 dX9_buyTruce_93 rfl (lv_at hl 3 rfl) ?_
              refine lv_iload_n E.1 E.2.1 dX9_buyTruce_94 rfl (lv_at hl 4 rfl) ?_
              refine lv_iload_n E.1 E.2.1 dX9_buyTruce_95 rfl (lv_at hl 5 rfl) ?_
              refine lv_iload E.1 E.2.1 dX9_buyTruce_96 (lv_at hl 6 rfl) ?_
              refine x_calli E h hl 0 hf (fun r0 Sq0 hr => c_X9_buys l D cy s00 _ S84 p0 p1 p2 p3 r0 Sq0 hr) m_X9_buys rfl rfl kw1538 rfl rfl (Nat.le_of_ble_eq_true rfl) ⟨by decide, by decide⟩ ⟨Nat.zero_le _, Nat.zero_le _⟩ dX9_buyTruce_98 (fun v85 S86 H locs hf h => ?_)
              refine x_calli E h hl 0 hf (fun r0 Sq0 hr => c_X9_remember l D cy s00 _ S86 v85 r0 Sq0 hr) m_X9_remember rfl rfl kw1709 rfl rfl (Nat.le_of_ble_eq_true rfl) ⟨by decide, by decide⟩ ⟨Nat.zero_le _, Nat.zero_le _⟩ dX9_buyTruce_101 (fun v87 S88 H locs hf h => ?_)
              exact x_iret E h hf dX9_buyTruce_104
            · refine lv_iconst (v := 0) E.1 E.2.1 dX9_buyTruce_85 (by decide) ?_
              exact x_iret E h hf dX9_buyTruce_86
          · refine lv_iload E.1 E.2.1 dX9_buyTruce_59 (lv_at hl 0 rfl) ?_
            refine lv_if_ne (tgt := 78) E.1 E.2.1 dX9_buyTruce_61 (by decide) (fun c9 => absurd c9 (by decide)) (fun _ => ?_)
            refine lv_aload_n E.1 E.2.1 dX9_buyTruce_64 rfl (lv_at hl 2 rfl) ?_
            refine lv_iload_n E.1 E.2.1 dX9_buyTruce_65 rfl (lv_at hl 3 rfl) ?_
            refine lv_iload_n E.1 E.2.1 dX9_buyTruce_66 rfl (lv_at hl 4 rfl) ?_
            refine lv_iload_n E.1 E.2.1 dX9_buyTruce_67 rfl (lv_at hl 5 rfl) ?_
            refine x_callp E h hl 0 hf (fun r0 hr => c_X9_canBuy l D cy s00 _ S p0 p1 p2 r0 hr) m_X9_canBuy rfl rfl kw1534 rfl rfl (Nat.le_of_ble_eq_true rfl) ⟨by decide, by decide⟩ ⟨Nat.zero_le _, Nat.zero_le _⟩ dX9_buyTruce_68 (fun v89 H locs hf h => ?_)
            refine x_brn hf (lv_if_ne (tgt := 78) E.1 E.2.1 dX9_buyTruce_71 (by decide)) (fun hf => ?_) (fun hf => ?_)
            · refine lv_iconst (v := 0) E.1 E.2.1 dX9_buyTruce_78 (by decide) ?_
              refine x_calli E h hl 0 hf (fun r0 Sq0 hr => c_X9_throwsOne__ l D cy s00 _ S 1 0 0 r0 Sq0 hr) m_X9_throwsOne__ rfl rfl kw1729 rfl rfl (Nat.le_of_ble_eq_true rfl) ⟨by decide, by decide⟩ ⟨Nat.zero_le _, Nat.zero_le _⟩ dX9_buyTruce_79 (fun v90 S91 H locs hf h => ?_)
              refine x_br hf (lv_if_eq (tgt := 87) E.1 E.2.1 dX9_buyTruce_82 (by decide)) (fun hf => ?_) (fun hf => ?_)
              · refine lv_aload_n E.1 E.2.1 dX9_buyTruce_87 rfl (lv_at hl 2 rfl) ?_
                refine x_callv E h hl 0 hf (fun r0 hr => c_X9_begins l D cy s00 _ S91  r0 hr) m_X9_begins rfl rfl kw1705 rfl rfl (Nat.le_of_ble_eq_true rfl) ⟨by decide, by decide⟩ ⟨Nat.zero_le _, Nat.zero_le _⟩ dX9_buyTruce_88 (fun S92 H locs hf h => ?_)
                refine lv_aload_n E.1 E.2.1 dX9_buyTruce_91 rfl (lv_at hl 2 rfl) ?_
                refine lv_aload_n E.1 E.2.1 dX9_buyTruce_92 rfl (lv_at hl 2 rfl) ?_
                refine lv_iload_n E.1 E.2.1 dX9_buyTruce_93 rfl (lv_at hl 3 rfl) ?_
                refine lv_iload_n E.1 E.2.1 dX9_buyTruce_94 rfl (lv_at hl 4 rfl) ?_
                refine lv_iload_n E.1 E.2.1 dX9_buyTruce_95 rfl (lv_at hl 5 rfl) ?_
                refine lv_iload E.1 E.2.1 dX9_buyTruce_96 (lv_at hl 6 rfl) ?_
                refine x_calli E h hl 0 hf (fun r0 Sq0 hr => c_X9_buys l D cy s00 _ S92 p0 p1 p2 p3 r0 Sq0 hr) m_X9_buys rfl rfl kw1538 rfl rfl (Nat.le_of_ble_eq_true rfl) ⟨by decide, by decide⟩ ⟨Nat.zero_le _, Nat.zero_le _⟩ dX9_buyTruce_98 (fun v93 S94 H locs hf h => ?_)
                refine x_calli E h hl 0 hf (fun r0 Sq0 hr => c_X9_remember l D cy s00 _ S94 v93 r0 Sq0 hr) m_X9_remember rfl rfl kw1709 rfl rfl (Nat.le_of_ble_eq_true rfl) ⟨by decide, by decide⟩ ⟨Nat.zero_le _, Nat.zero_le _⟩ dX9_buyTruce_101 (fun v95 S96 H locs hf h => ?_)
                exact x_iret E h hf dX9_buyTruce_104
              · refine lv_iconst (v := 0) E.1 E.2.1 dX9_buyTruce_85 (by decide) ?_
                exact x_iret E h hf dX9_buyTruce_86
            · refine lv_iconst (v := 1) E.1 E.2.1 dX9_buyTruce_74 (by decide) ?_
              refine lv_goto (tgt := 79) E.1 E.2.1 dX9_buyTruce_75 (by decide) ?_
              refine x_calli E h hl 0 hf (fun r0 Sq0 hr => c_X9_throwsOne__ l D cy s00 _ S 1 0 1 r0 Sq0 hr) m_X9_throwsOne__ rfl rfl kw1729 rfl rfl (Nat.le_of_ble_eq_true rfl) ⟨by decide, by decide⟩ ⟨Nat.zero_le _, Nat.zero_le _⟩ dX9_buyTruce_79 (fun v97 S98 H locs hf h => ?_)
              refine x_br hf (lv_if_eq (tgt := 87) E.1 E.2.1 dX9_buyTruce_82 (by decide)) (fun hf => ?_) (fun hf => ?_)
              · refine lv_aload_n E.1 E.2.1 dX9_buyTruce_87 rfl (lv_at hl 2 rfl) ?_
                refine x_callv E h hl 0 hf (fun r0 hr => c_X9_begins l D cy s00 _ S98  r0 hr) m_X9_begins rfl rfl kw1705 rfl rfl (Nat.le_of_ble_eq_true rfl) ⟨by decide, by decide⟩ ⟨Nat.zero_le _, Nat.zero_le _⟩ dX9_buyTruce_88 (fun S99 H locs hf h => ?_)
                refine lv_aload_n E.1 E.2.1 dX9_buyTruce_91 rfl (lv_at hl 2 rfl) ?_
                refine lv_aload_n E.1 E.2.1 dX9_buyTruce_92 rfl (lv_at hl 2 rfl) ?_
                refine lv_iload_n E.1 E.2.1 dX9_buyTruce_93 rfl (lv_at hl 3 rfl) ?_
                refine lv_iload_n E.1 E.2.1 dX9_buyTruce_94 rfl (lv_at hl 4 rfl) ?_
                refine lv_iload_n E.1 E.2.1 dX9_buyTruce_95 rfl (lv_at hl 5 rfl) ?_
                refine lv_iload E.1 E.2.1 dX9_buyTruce_96 (lv_at hl 6 rfl) ?_
                refine x_calli E h hl 0 hf (fun r0 Sq0 hr => c_X9_buys l D cy s00 _ S99 p0 p1 p2 p3 r0 Sq0 hr) m_X9_buys rfl rfl kw1538 rfl rfl (Nat.le_of_ble_eq_true rfl) ⟨by decide, by decide⟩ ⟨Nat.zero_le _, Nat.zero_le _⟩ dX9_buyTruce_98 (fun v100 S101 H locs hf h => ?_)
                refine x_calli E h hl 0 hf (fun r0 Sq0 hr => c_X9_remember l D cy s00 _ S101 v100 r0 Sq0 hr) m_X9_remember rfl rfl kw1709 rfl rfl (Nat.le_of_ble_eq_true rfl) ⟨by decide, by decide⟩ ⟨Nat.zero_le _, Nat.zero_le _⟩ dX9_buyTruce_101 (fun v102 S103 H locs hf h => ?_)
                exact x_iret E h hf dX9_buyTruce_104
              · refine lv_iconst (v := 0) E.1 E.2.1 dX9_buyTruce_85 (by decide) ?_
                exact x_iret E h hf dX9_buyTruce_86
      · refine lv_iconst (v := 1) E.1 E.2.1 dX9_buyTruce_34 (by decide) ?_
        refine lv_goto (tgt := 39) E.1 E.2.1 dX9_buyTruce_35 (by decide) ?_
        refine lv_istore (lv' := [(6, .int 1), (5, .int v1), (0, .ref (ad 0)), (1, .int p0), (2, .int p1), (3, .int p2), (4, .int p3)]) E.1 E.2.1 dX9_buyTruce_39 hl (by decide) rfl (fun ls hl => ?_)
        refine lv_aload_n E.1 E.2.1 dX9_buyTruce_41 rfl (lv_at hl 2 rfl) ?_
        refine lv_iload E.1 E.2.1 dX9_buyTruce_42 (lv_at hl 1 rfl) ?_
        refine x_brn hf (lv_if_ne (tgt := 51) E.1 E.2.1 dX9_buyTruce_44 (by decide)) (fun hf => ?_) (fun hf => ?_)
        · refine lv_iconst (v := 0) E.1 E.2.1 dX9_buyTruce_51 (by decide) ?_
          refine lv_iload E.1 E.2.1 dX9_buyTruce_52 (lv_at hl 0 rfl) ?_
          refine lv_iload E.1 E.2.1 dX9_buyTruce_54 (lv_at hl 1 rfl) ?_
          refine x_br hf (lv_if_eq (tgt := 78) E.1 E.2.1 dX9_buyTruce_56 (by decide)) (fun hf => ?_) (fun hf => ?_)
          · refine lv_iconst (v := 0) E.1 E.2.1 dX9_buyTruce_78 (by decide) ?_
            refine x_calli E h hl 0 hf (fun r0 Sq0 hr => c_X9_throwsOne__ l D cy s00 _ S 0 1 0 r0 Sq0 hr) m_X9_throwsOne__ rfl rfl kw1729 rfl rfl (Nat.le_of_ble_eq_true rfl) ⟨by decide, by decide⟩ ⟨Nat.zero_le _, Nat.zero_le _⟩ dX9_buyTruce_79 (fun v104 S105 H locs hf h => ?_)
            refine x_br hf (lv_if_eq (tgt := 87) E.1 E.2.1 dX9_buyTruce_82 (by decide)) (fun hf => ?_) (fun hf => ?_)
            · refine lv_aload_n E.1 E.2.1 dX9_buyTruce_87 rfl (lv_at hl 2 rfl) ?_
              refine x_callv E h hl 0 hf (fun r0 hr => c_X9_begins l D cy s00 _ S105  r0 hr) m_X9_begins rfl rfl kw1705 rfl rfl (Nat.le_of_ble_eq_true rfl) ⟨by decide, by decide⟩ ⟨Nat.zero_le _, Nat.zero_le _⟩ dX9_buyTruce_88 (fun S106 H locs hf h => ?_)
              refine lv_aload_n E.1 E.2.1 dX9_buyTruce_91 rfl (lv_at hl 2 rfl) ?_
              refine lv_aload_n E.1 E.2.1 dX9_buyTruce_92 rfl (lv_at hl 2 rfl) ?_
              refine lv_iload_n E.1 E.2.1 dX9_buyTruce_93 rfl (lv_at hl 3 rfl) ?_
              refine lv_iload_n E.1 E.2.1 dX9_buyTruce_94 rfl (lv_at hl 4 rfl) ?_
              refine lv_iload_n E.1 E.2.1 dX9_buyTruce_95 rfl (lv_at hl 5 rfl) ?_
              refine lv_iload E.1 E.2.1 dX9_buyTruce_96 (lv_at hl 6 rfl) ?_
              refine x_calli E h hl 0 hf (fun r0 Sq0 hr => c_X9_buys l D cy s00 _ S106 p0 p1 p2 p3 r0 Sq0 hr) m_X9_buys rfl rfl kw1538 rfl rfl (Nat.le_of_ble_eq_true rfl) ⟨by decide, by decide⟩ ⟨Nat.zero_le _, Nat.zero_le _⟩ dX9_buyTruce_98 (fun v107 S108 H locs hf h => ?_)
              refine x_calli E h hl 0 hf (fun r0 Sq0 hr => c_X9_remember l D cy s00 _ S108 v107 r0 Sq0 hr) m_X9_remember rfl rfl kw1709 rfl rfl (Nat.le_of_ble_eq_true rfl) ⟨by decide, by decide⟩ ⟨Nat.zero_le _, Nat.zero_le _⟩ dX9_buyTruce_101 (fun v109 S110 H locs hf h => ?_)
              exact x_iret E h hf dX9_buyTruce_104
            · refine lv_iconst (v := 0) E.1 E.2.1 dX9_buyTruce_85 (by decide) ?_
              exact x_iret E h hf dX9_buyTruce_86
          · refine lv_iload E.1 E.2.1 dX9_buyTruce_59 (lv_at hl 0 rfl) ?_
            refine lv_if_ne (tgt := 78) E.1 E.2.1 dX9_buyTruce_61 (by decide) (fun _ => ?_) (fun c9 => absurd c9 (by decide))
            refine lv_iconst (v := 0) E.1 E.2.1 dX9_buyTruce_78 (by decide) ?_
            refine x_calli E h hl 0 hf (fun r0 Sq0 hr => c_X9_throwsOne__ l D cy s00 _ S 0 1 0 r0 Sq0 hr) m_X9_throwsOne__ rfl rfl kw1729 rfl rfl (Nat.le_of_ble_eq_true rfl) ⟨by decide, by decide⟩ ⟨Nat.zero_le _, Nat.zero_le _⟩ dX9_buyTruce_79 (fun v111 S112 H locs hf h => ?_)
            refine x_br hf (lv_if_eq (tgt := 87) E.1 E.2.1 dX9_buyTruce_82 (by decide)) (fun hf => ?_) (fun hf => ?_)
            · refine lv_aload_n E.1 E.2.1 dX9_buyTruce_87 rfl (lv_at hl 2 rfl) ?_
              refine x_callv E h hl 0 hf (fun r0 hr => c_X9_begins l D cy s00 _ S112  r0 hr) m_X9_begins rfl rfl kw1705 rfl rfl (Nat.le_of_ble_eq_true rfl) ⟨by decide, by decide⟩ ⟨Nat.zero_le _, Nat.zero_le _⟩ dX9_buyTruce_88 (fun S113 H locs hf h => ?_)
              refine lv_aload_n E.1 E.2.1 dX9_buyTruce_91 rfl (lv_at hl 2 rfl) ?_
              refine lv_aload_n E.1 E.2.1 dX9_buyTruce_92 rfl (lv_at hl 2 rfl) ?_
              refine lv_iload_n E.1 E.2.1 dX9_buyTruce_93 rfl (lv_at hl 3 rfl) ?_
              refine lv_iload_n E.1 E.2.1 dX9_buyTruce_94 rfl (lv_at hl 4 rfl) ?_
              refine lv_iload_n E.1 E.2.1 dX9_buyTruce_95 rfl (lv_at hl 5 rfl) ?_
              refine lv_iload E.1 E.2.1 dX9_buyTruce_96 (lv_at hl 6 rfl) ?_
              refine x_calli E h hl 0 hf (fun r0 Sq0 hr => c_X9_buys l D cy s00 _ S113 p0 p1 p2 p3 r0 Sq0 hr) m_X9_buys rfl rfl kw1538 rfl rfl (Nat.le_of_ble_eq_true rfl) ⟨by decide, by decide⟩ ⟨Nat.zero_le _, Nat.zero_le _⟩ dX9_buyTruce_98 (fun v114 S115 H locs hf h => ?_)
              refine x_calli E h hl 0 hf (fun r0 Sq0 hr => c_X9_remember l D cy s00 _ S115 v114 r0 Sq0 hr) m_X9_remember rfl rfl kw1709 rfl rfl (Nat.le_of_ble_eq_true rfl) ⟨by decide, by decide⟩ ⟨Nat.zero_le _, Nat.zero_le _⟩ dX9_buyTruce_101 (fun v116 S117 H locs hf h => ?_)
              exact x_iret E h hf dX9_buyTruce_104
            · refine lv_iconst (v := 0) E.1 E.2.1 dX9_buyTruce_85 (by decide) ?_
              exact x_iret E h hf dX9_buyTruce_86
        · refine lv_iconst (v := 1) E.1 E.2.1 dX9_buyTruce_47 (by decide) ?_
          refine lv_goto (tgt := 52) E.1 E.2.1 dX9_buyTruce_48 (by decide) ?_
          refine lv_iload E.1 E.2.1 dX9_buyTruce_52 (lv_at hl 0 rfl) ?_
          refine lv_iload E.1 E.2.1 dX9_buyTruce_54 (lv_at hl 1 rfl) ?_
          refine x_br hf (lv_if_eq (tgt := 78) E.1 E.2.1 dX9_buyTruce_56 (by decide)) (fun hf => ?_) (fun hf => ?_)
          · refine lv_iconst (v := 0) E.1 E.2.1 dX9_buyTruce_78 (by decide) ?_
            refine x_calli E h hl 0 hf (fun r0 Sq0 hr => c_X9_throwsOne__ l D cy s00 _ S 1 1 0 r0 Sq0 hr) m_X9_throwsOne__ rfl rfl kw1729 rfl rfl (Nat.le_of_ble_eq_true rfl) ⟨by decide, by decide⟩ ⟨Nat.zero_le _, Nat.zero_le _⟩ dX9_buyTruce_79 (fun v118 S119 H locs hf h => ?_)
            refine x_br hf (lv_if_eq (tgt := 87) E.1 E.2.1 dX9_buyTruce_82 (by decide)) (fun hf => ?_) (fun hf => ?_)
            · refine lv_aload_n E.1 E.2.1 dX9_buyTruce_87 rfl (lv_at hl 2 rfl) ?_
              refine x_callv E h hl 0 hf (fun r0 hr => c_X9_begins l D cy s00 _ S119  r0 hr) m_X9_begins rfl rfl kw1705 rfl rfl (Nat.le_of_ble_eq_true rfl) ⟨by decide, by decide⟩ ⟨Nat.zero_le _, Nat.zero_le _⟩ dX9_buyTruce_88 (fun S120 H locs hf h => ?_)
              refine lv_aload_n E.1 E.2.1 dX9_buyTruce_91 rfl (lv_at hl 2 rfl) ?_
              refine lv_aload_n E.1 E.2.1 dX9_buyTruce_92 rfl (lv_at hl 2 rfl) ?_
              refine lv_iload_n E.1 E.2.1 dX9_buyTruce_93 rfl (lv_at hl 3 rfl) ?_
              refine lv_iload_n E.1 E.2.1 dX9_buyTruce_94 rfl (lv_at hl 4 rfl) ?_
              refine lv_iload_n E.1 E.2.1 dX9_buyTruce_95 rfl (lv_at hl 5 rfl) ?_
              refine lv_iload E.1 E.2.1 dX9_buyTruce_96 (lv_at hl 6 rfl) ?_
              refine x_calli E h hl 0 hf (fun r0 Sq0 hr => c_X9_buys l D cy s00 _ S120 p0 p1 p2 p3 r0 Sq0 hr) m_X9_buys rfl rfl kw1538 rfl rfl (Nat.le_of_ble_eq_true rfl) ⟨by decide, by decide⟩ ⟨Nat.zero_le _, Nat.zero_le _⟩ dX9_buyTruce_98 (fun v121 S122 H locs hf h => ?_)
              refine x_calli E h hl 0 hf (fun r0 Sq0 hr => c_X9_remember l D cy s00 _ S122 v121 r0 Sq0 hr) m_X9_remember rfl rfl kw1709 rfl rfl (Nat.le_of_ble_eq_true rfl) ⟨by decide, by decide⟩ ⟨Nat.zero_le _, Nat.zero_le _⟩ dX9_buyTruce_101 (fun v123 S124 H locs hf h => ?_)
              exact x_iret E h hf dX9_buyTruce_104
            · refine lv_iconst (v := 0) E.1 E.2.1 dX9_buyTruce_85 (by decide) ?_
              exact x_iret E h hf dX9_buyTruce_86
          · refine lv_iload E.1 E.2.1 dX9_buyTruce_59 (lv_at hl 0 rfl) ?_
            refine lv_if_ne (tgt := 78) E.1 E.2.1 dX9_buyTruce_61 (by decide) (fun _ => ?_) (fun c9 => absurd c9 (by decide))
            refine lv_iconst (v := 0) E.1 E.2.1 dX9_buyTruce_78 (by decide) ?_
            refine x_calli E h hl 0 hf (fun r0 Sq0 hr => c_X9_throwsOne__ l D cy s00 _ S 1 1 0 r0 Sq0 hr) m_X9_throwsOne__ rfl rfl kw1729 rfl rfl (Nat.le_of_ble_eq_true rfl) ⟨by decide, by decide⟩ ⟨Nat.zero_le _, Nat.zero_le _⟩ dX9_buyTruce_79 (fun v125 S126 H locs hf h => ?_)
            refine x_br hf (lv_if_eq (tgt := 87) E.1 E.2.1 dX9_buyTruce_82 (by decide)) (fun hf => ?_) (fun hf => ?_)
            · refine lv_aload_n E.1 E.2.1 dX9_buyTruce_87 rfl (lv_at hl 2 rfl) ?_
              refine x_callv E h hl 0 hf (fun r0 hr => c_X9_begins l D cy s00 _ S126  r0 hr) m_X9_begins rfl rfl kw1705 rfl rfl (Nat.le_of_ble_eq_true rfl) ⟨by decide, by decide⟩ ⟨Nat.zero_le _, Nat.zero_le _⟩ dX9_buyTruce_88 (fun S127 H locs hf h => ?_)
              refine lv_aload_n E.1 E.2.1 dX9_buyTruce_91 rfl (lv_at hl 2 rfl) ?_
              refine lv_aload_n E.1 E.2.1 dX9_buyTruce_92 rfl (lv_at hl 2 rfl) ?_
              refine lv_iload_n E.1 E.2.1 dX9_buyTruce_93 rfl (lv_at hl 3 rfl) ?_
              refine lv_iload_n E.1 E.2.1 dX9_buyTruce_94 rfl (lv_at hl 4 rfl) ?_
              refine lv_iload_n E.1 E.2.1 dX9_buyTruce_95 rfl (lv_at hl 5 rfl) ?_
              refine lv_iload E.1 E.2.1 dX9_buyTruce_96 (lv_at hl 6 rfl) ?_
              refine x_calli E h hl 0 hf (fun r0 Sq0 hr => c_X9_buys l D cy s00 _ S127 p0 p1 p2 p3 r0 Sq0 hr) m_X9_buys rfl rfl kw1538 rfl rfl (Nat.le_of_ble_eq_true rfl) ⟨by decide, by decide⟩ ⟨Nat.zero_le _, Nat.zero_le _⟩ dX9_buyTruce_98 (fun v128 S129 H locs hf h => ?_)
              refine x_calli E h hl 0 hf (fun r0 Sq0 hr => c_X9_remember l D cy s00 _ S129 v128 r0 Sq0 hr) m_X9_remember rfl rfl kw1709 rfl rfl (Nat.le_of_ble_eq_true rfl) ⟨by decide, by decide⟩ ⟨Nat.zero_le _, Nat.zero_le _⟩ dX9_buyTruce_101 (fun v130 S131 H locs hf h => ?_)
              exact x_iret E h hf dX9_buyTruce_104
            · refine lv_iconst (v := 0) E.1 E.2.1 dX9_buyTruce_85 (by decide) ?_
              exact x_iret E h hf dX9_buyTruce_86
set_option maxHeartbeats 4000000 in
set_option maxRecDepth 100000 in
theorem c_X9_nominate (l : Launch) (D : va_G) (cy : Nat → ClassId) (s00 : State) (ad : Nat → Nat) (S : XS) (p0 p1 : Int32) (r9 : Int32) (S9 : XS) (hf : f_X9_nominate S p0 p1 = some (r9, S9)) : XI l yX9_nominate cX9_nominate 3 (some .int) 2 D cy s00 shMod ad S [.ref (ad 0), .int p0, .int p1] r9 S9 := by
  refine XI.of (by decide) [(0, .ref (ad 0)), (1, .int p0), (2, .int p1)] rfl (Nat.le_of_ble_eq_true rfl) (fun p e s m args below meth c A ls E h hl => ?_)
  unfold f_X9_nominate at hf
  refine lv_aload_n E.1 E.2.1 dX9_nominate_0 rfl (lv_at hl 0 rfl) ?_
  refine lv_iload_n E.1 E.2.1 dX9_nominate_1 rfl (lv_at hl 1 rfl) ?_
  refine lv_iload_n E.1 E.2.1 dX9_nominate_2 rfl (lv_at hl 2 rfl) ?_
  refine x_callsp E h hl hf (fun r0 hr => c_X9_areSizes l D cy s00 _ _ p0 p1 r0 hr) m_X9_areSizes kw1737 rfl rfl (Nat.le_of_ble_eq_true rfl) ⟨by decide, by decide⟩ ⟨Nat.zero_le _, Nat.zero_le _⟩ dX9_nominate_3 (fun v1 H locs hf h => ?_)
  refine x_brn hf (lv_if_ne (tgt := 13) E.1 E.2.1 dX9_nominate_6 (by decide)) (fun hf => ?_) (fun hf => ?_)
  · refine lv_iconst (v := 0) E.1 E.2.1 dX9_nominate_13 (by decide) ?_
    refine lv_aload_n E.1 E.2.1 dX9_nominate_14 rfl (lv_at hl 0 rfl) ?_
    refine x_callp E h hl 0 hf (fun r0 hr => c_X9_canNominate l D cy s00 _ S  r0 hr) m_X9_canNominate rfl rfl kw1546 rfl rfl (Nat.le_of_ble_eq_true rfl) ⟨by decide, by decide⟩ ⟨Nat.zero_le _, Nat.zero_le _⟩ dX9_nominate_15 (fun v2 H locs hf h => ?_)
    refine x_brn hf (lv_if_ne (tgt := 25) E.1 E.2.1 dX9_nominate_18 (by decide)) (fun hf => ?_) (fun hf => ?_)
    · refine lv_iconst (v := 0) E.1 E.2.1 dX9_nominate_25 (by decide) ?_
      refine x_calli E h hl 0 hf (fun r0 Sq0 hr => c_X9_throwsOne_ l D cy s00 _ S 0 0 r0 Sq0 hr) m_X9_throwsOne_ rfl rfl kw1717 rfl rfl (Nat.le_of_ble_eq_true rfl) ⟨by decide, by decide⟩ ⟨Nat.zero_le _, Nat.zero_le _⟩ dX9_nominate_26 (fun v3 S4 H locs hf h => ?_)
      refine x_br hf (lv_if_eq (tgt := 34) E.1 E.2.1 dX9_nominate_29 (by decide)) (fun hf => ?_) (fun hf => ?_)
      · refine lv_aload_n E.1 E.2.1 dX9_nominate_34 rfl (lv_at hl 0 rfl) ?_
        refine x_callv E h hl 0 hf (fun r0 hr => c_X9_begins l D cy s00 _ S4  r0 hr) m_X9_begins rfl rfl kw1705 rfl rfl (Nat.le_of_ble_eq_true rfl) ⟨by decide, by decide⟩ ⟨Nat.zero_le _, Nat.zero_le _⟩ dX9_nominate_35 (fun S5 H locs hf h => ?_)
        refine lv_aload_n E.1 E.2.1 dX9_nominate_38 rfl (lv_at hl 0 rfl) ?_
        refine lv_aload_n E.1 E.2.1 dX9_nominate_39 rfl (lv_at hl 0 rfl) ?_
        refine lv_iload_n E.1 E.2.1 dX9_nominate_40 rfl (lv_at hl 1 rfl) ?_
        refine lv_iload_n E.1 E.2.1 dX9_nominate_41 rfl (lv_at hl 2 rfl) ?_
        refine x_calli E h hl 0 hf (fun r0 Sq0 hr => c_X9_nominates l D cy s00 _ S5 p0 p1 r0 Sq0 hr) m_X9_nominates rfl rfl kw1554 rfl rfl (Nat.le_of_ble_eq_true rfl) ⟨by decide, by decide⟩ ⟨Nat.zero_le _, Nat.zero_le _⟩ dX9_nominate_42 (fun v6 S7 H locs hf h => ?_)
        refine x_calli E h hl 0 hf (fun r0 Sq0 hr => c_X9_remember l D cy s00 _ S7 v6 r0 Sq0 hr) m_X9_remember rfl rfl kw1709 rfl rfl (Nat.le_of_ble_eq_true rfl) ⟨by decide, by decide⟩ ⟨Nat.zero_le _, Nat.zero_le _⟩ dX9_nominate_45 (fun v8 S9 H locs hf h => ?_)
        exact x_iret E h hf dX9_nominate_48
      · refine lv_iconst (v := 0) E.1 E.2.1 dX9_nominate_32 (by decide) ?_
        exact x_iret E h hf dX9_nominate_33
    · refine lv_iconst (v := 1) E.1 E.2.1 dX9_nominate_21 (by decide) ?_
      refine lv_goto (tgt := 26) E.1 E.2.1 dX9_nominate_22 (by decide) ?_
      refine x_calli E h hl 0 hf (fun r0 Sq0 hr => c_X9_throwsOne_ l D cy s00 _ S 0 1 r0 Sq0 hr) m_X9_throwsOne_ rfl rfl kw1717 rfl rfl (Nat.le_of_ble_eq_true rfl) ⟨by decide, by decide⟩ ⟨Nat.zero_le _, Nat.zero_le _⟩ dX9_nominate_26 (fun v10 S11 H locs hf h => ?_)
      refine x_br hf (lv_if_eq (tgt := 34) E.1 E.2.1 dX9_nominate_29 (by decide)) (fun hf => ?_) (fun hf => ?_)
      · refine lv_aload_n E.1 E.2.1 dX9_nominate_34 rfl (lv_at hl 0 rfl) ?_
        refine x_callv E h hl 0 hf (fun r0 hr => c_X9_begins l D cy s00 _ S11  r0 hr) m_X9_begins rfl rfl kw1705 rfl rfl (Nat.le_of_ble_eq_true rfl) ⟨by decide, by decide⟩ ⟨Nat.zero_le _, Nat.zero_le _⟩ dX9_nominate_35 (fun S12 H locs hf h => ?_)
        refine lv_aload_n E.1 E.2.1 dX9_nominate_38 rfl (lv_at hl 0 rfl) ?_
        refine lv_aload_n E.1 E.2.1 dX9_nominate_39 rfl (lv_at hl 0 rfl) ?_
        refine lv_iload_n E.1 E.2.1 dX9_nominate_40 rfl (lv_at hl 1 rfl) ?_
        refine lv_iload_n E.1 E.2.1 dX9_nominate_41 rfl (lv_at hl 2 rfl) ?_
        refine x_calli E h hl 0 hf (fun r0 Sq0 hr => c_X9_nominates l D cy s00 _ S12 p0 p1 r0 Sq0 hr) m_X9_nominates rfl rfl kw1554 rfl rfl (Nat.le_of_ble_eq_true rfl) ⟨by decide, by decide⟩ ⟨Nat.zero_le _, Nat.zero_le _⟩ dX9_nominate_42 (fun v13 S14 H locs hf h => ?_)
        refine x_calli E h hl 0 hf (fun r0 Sq0 hr => c_X9_remember l D cy s00 _ S14 v13 r0 Sq0 hr) m_X9_remember rfl rfl kw1709 rfl rfl (Nat.le_of_ble_eq_true rfl) ⟨by decide, by decide⟩ ⟨Nat.zero_le _, Nat.zero_le _⟩ dX9_nominate_45 (fun v15 S16 H locs hf h => ?_)
        exact x_iret E h hf dX9_nominate_48
      · refine lv_iconst (v := 0) E.1 E.2.1 dX9_nominate_32 (by decide) ?_
        exact x_iret E h hf dX9_nominate_33
  · refine lv_iconst (v := 1) E.1 E.2.1 dX9_nominate_9 (by decide) ?_
    refine lv_goto (tgt := 14) E.1 E.2.1 dX9_nominate_10 (by decide) ?_
    refine lv_aload_n E.1 E.2.1 dX9_nominate_14 rfl (lv_at hl 0 rfl) ?_
    refine x_callp E h hl 0 hf (fun r0 hr => c_X9_canNominate l D cy s00 _ S  r0 hr) m_X9_canNominate rfl rfl kw1546 rfl rfl (Nat.le_of_ble_eq_true rfl) ⟨by decide, by decide⟩ ⟨Nat.zero_le _, Nat.zero_le _⟩ dX9_nominate_15 (fun v17 H locs hf h => ?_)
    refine x_brn hf (lv_if_ne (tgt := 25) E.1 E.2.1 dX9_nominate_18 (by decide)) (fun hf => ?_) (fun hf => ?_)
    · refine lv_iconst (v := 0) E.1 E.2.1 dX9_nominate_25 (by decide) ?_
      refine x_calli E h hl 0 hf (fun r0 Sq0 hr => c_X9_throwsOne_ l D cy s00 _ S 1 0 r0 Sq0 hr) m_X9_throwsOne_ rfl rfl kw1717 rfl rfl (Nat.le_of_ble_eq_true rfl) ⟨by decide, by decide⟩ ⟨Nat.zero_le _, Nat.zero_le _⟩ dX9_nominate_26 (fun v18 S19 H locs hf h => ?_)
      refine x_br hf (lv_if_eq (tgt := 34) E.1 E.2.1 dX9_nominate_29 (by decide)) (fun hf => ?_) (fun hf => ?_)
      · refine lv_aload_n E.1 E.2.1 dX9_nominate_34 rfl (lv_at hl 0 rfl) ?_
        refine x_callv E h hl 0 hf (fun r0 hr => c_X9_begins l D cy s00 _ S19  r0 hr) m_X9_begins rfl rfl kw1705 rfl rfl (Nat.le_of_ble_eq_true rfl) ⟨by decide, by decide⟩ ⟨Nat.zero_le _, Nat.zero_le _⟩ dX9_nominate_35 (fun S20 H locs hf h => ?_)
        refine lv_aload_n E.1 E.2.1 dX9_nominate_38 rfl (lv_at hl 0 rfl) ?_
        refine lv_aload_n E.1 E.2.1 dX9_nominate_39 rfl (lv_at hl 0 rfl) ?_
        refine lv_iload_n E.1 E.2.1 dX9_nominate_40 rfl (lv_at hl 1 rfl) ?_
        refine lv_iload_n E.1 E.2.1 dX9_nominate_41 rfl (lv_at hl 2 rfl) ?_
        refine x_calli E h hl 0 hf (fun r0 Sq0 hr => c_X9_nominates l D cy s00 _ S20 p0 p1 r0 Sq0 hr) m_X9_nominates rfl rfl kw1554 rfl rfl (Nat.le_of_ble_eq_true rfl) ⟨by decide, by decide⟩ ⟨Nat.zero_le _, Nat.zero_le _⟩ dX9_nominate_42 (fun v21 S22 H locs hf h => ?_)
        refine x_calli E h hl 0 hf (fun r0 Sq0 hr => c_X9_remember l D cy s00 _ S22 v21 r0 Sq0 hr) m_X9_remember rfl rfl kw1709 rfl rfl (Nat.le_of_ble_eq_true rfl) ⟨by decide, by decide⟩ ⟨Nat.zero_le _, Nat.zero_le _⟩ dX9_nominate_45 (fun v23 S24 H locs hf h => ?_)
        exact x_iret E h hf dX9_nominate_48
      · refine lv_iconst (v := 0) E.1 E.2.1 dX9_nominate_32 (by decide) ?_
        exact x_iret E h hf dX9_nominate_33
    · refine lv_iconst (v := 1) E.1 E.2.1 dX9_nominate_21 (by decide) ?_
      refine lv_goto (tgt := 26) E.1 E.2.1 dX9_nominate_22 (by decide) ?_
      refine x_calli E h hl 0 hf (fun r0 Sq0 hr => c_X9_throwsOne_ l D cy s00 _ S 1 1 r0 Sq0 hr) m_X9_throwsOne_ rfl rfl kw1717 rfl rfl (Nat.le_of_ble_eq_true rfl) ⟨by decide, by decide⟩ ⟨Nat.zero_le _, Nat.zero_le _⟩ dX9_nominate_26 (fun v25 S26 H locs hf h => ?_)
      refine x_br hf (lv_if_eq (tgt := 34) E.1 E.2.1 dX9_nominate_29 (by decide)) (fun hf => ?_) (fun hf => ?_)
      · refine lv_aload_n E.1 E.2.1 dX9_nominate_34 rfl (lv_at hl 0 rfl) ?_
        refine x_callv E h hl 0 hf (fun r0 hr => c_X9_begins l D cy s00 _ S26  r0 hr) m_X9_begins rfl rfl kw1705 rfl rfl (Nat.le_of_ble_eq_true rfl) ⟨by decide, by decide⟩ ⟨Nat.zero_le _, Nat.zero_le _⟩ dX9_nominate_35 (fun S27 H locs hf h => ?_)
        refine lv_aload_n E.1 E.2.1 dX9_nominate_38 rfl (lv_at hl 0 rfl) ?_
        refine lv_aload_n E.1 E.2.1 dX9_nominate_39 rfl (lv_at hl 0 rfl) ?_
        refine lv_iload_n E.1 E.2.1 dX9_nominate_40 rfl (lv_at hl 1 rfl) ?_
        refine lv_iload_n E.1 E.2.1 dX9_nominate_41 rfl (lv_at hl 2 rfl) ?_
        refine x_calli E h hl 0 hf (fun r0 Sq0 hr => c_X9_nominates l D cy s00 _ S27 p0 p1 r0 Sq0 hr) m_X9_nominates rfl rfl kw1554 rfl rfl (Nat.le_of_ble_eq_true rfl) ⟨by decide, by decide⟩ ⟨Nat.zero_le _, Nat.zero_le _⟩ dX9_nominate_42 (fun v28 S29 H locs hf h => ?_)
        refine x_calli E h hl 0 hf (fun r0 Sq0 hr => c_X9_remember l D cy s00 _ S29 v28 r0 Sq0 hr) m_X9_remember rfl rfl kw1709 rfl rfl (Nat.le_of_ble_eq_true rfl) ⟨by decide, by decide⟩ ⟨Nat.zero_le _, Nat.zero_le _⟩ dX9_nominate_45 (fun v30 S31 H locs hf h => ?_)
        exact x_iret E h hf dX9_nominate_48
      · refine lv_iconst (v := 0) E.1 E.2.1 dX9_nominate_32 (by decide) ?_
        exact x_iret E h hf dX9_nominate_33
set_option maxHeartbeats 4000000 in
set_option maxRecDepth 100000 in
theorem c_X9_vote (l : Launch) (D : va_G) (cy : Nat → ClassId) (s00 : State) (ad : Nat → Nat) (S : XS) (p0 p1 : Int32) (r9 : Int32) (S9 : XS) (hf : f_X9_vote S p0 p1 = some (r9, S9)) : XI l yX9_vote cX9_vote 4 (some .boolean) 5 D cy s00 shMod ad S [.ref (ad 0), .int p0, .int p1] r9 S9 := by
  refine XI.of (by decide) [(0, .ref (ad 0)), (1, .int p0), (2, .int p1)] rfl (Nat.le_of_ble_eq_true rfl) (fun p e s m args below meth c A ls E h hl => ?_)
  unfold f_X9_vote at hf
  refine lv_aload_n E.1 E.2.1 dX9_vote_0 rfl (lv_at hl 0 rfl) ?_
  refine lv_iload_n E.1 E.2.1 dX9_vote_1 rfl (lv_at hl 1 rfl) ?_
  refine x_callp E h hl 0 hf (fun r0 hr => c_X9_isCat l D cy s00 _ S p0 r0 hr) m_X9_isCat rfl rfl kw1744 rfl rfl (Nat.le_of_ble_eq_true rfl) ⟨by decide, by decide⟩ ⟨Nat.zero_le _, Nat.zero_le _⟩ dX9_vote_2 (fun v1 H locs hf h => ?_)
  refine lv_istore_n (lv' := [(3, .int v1), (0, .ref (ad 0)), (1, .int p0), (2, .int p1)]) E.1 E.2.1 dX9_vote_5 rfl hl (by decide) rfl (fun ls hl => ?_)
  refine lv_aload_n E.1 E.2.1 dX9_vote_6 rfl (lv_at hl 1 rfl) ?_
  refine lv_iload_n E.1 E.2.1 dX9_vote_7 rfl (lv_at hl 0 rfl) ?_
  refine x_brn hf (lv_if_ne (tgt := 15) E.1 E.2.1 dX9_vote_8 (by decide)) (fun hf => ?_) (fun hf => ?_)
  · refine lv_iconst (v := 0) E.1 E.2.1 dX9_vote_15 (by decide) ?_
    refine lv_iload_n E.1 E.2.1 dX9_vote_16 rfl (lv_at hl 0 rfl) ?_
    refine x_br hf (lv_if_eq (tgt := 32) E.1 E.2.1 dX9_vote_17 (by decide)) (fun hf => ?_) (fun hf => ?_)
    · refine lv_iconst (v := 0) E.1 E.2.1 dX9_vote_32 (by decide) ?_
      refine x_calli E h hl 0 hf (fun r0 Sq0 hr => c_X9_throwsOne_ l D cy s00 _ S 0 0 r0 Sq0 hr) m_X9_throwsOne_ rfl rfl kw1717 rfl rfl (Nat.le_of_ble_eq_true rfl) ⟨by decide, by decide⟩ ⟨Nat.zero_le _, Nat.zero_le _⟩ dX9_vote_33 (fun v2 S3 H locs hf h => ?_)
      refine x_br hf (lv_if_eq (tgt := 41) E.1 E.2.1 dX9_vote_36 (by decide)) (fun hf => ?_) (fun hf => ?_)
      · refine lv_aload_n E.1 E.2.1 dX9_vote_41 rfl (lv_at hl 1 rfl) ?_
        refine x_callv E h hl 0 hf (fun r0 hr => c_X9_begins l D cy s00 _ S3  r0 hr) m_X9_begins rfl rfl kw1705 rfl rfl (Nat.le_of_ble_eq_true rfl) ⟨by decide, by decide⟩ ⟨Nat.zero_le _, Nat.zero_le _⟩ dX9_vote_42 (fun S4 H locs hf h => ?_)
        refine lv_aload_n E.1 E.2.1 dX9_vote_45 rfl (lv_at hl 1 rfl) ?_
        refine lv_aload_n E.1 E.2.1 dX9_vote_46 rfl (lv_at hl 1 rfl) ?_
        refine lv_iload_n E.1 E.2.1 dX9_vote_47 rfl (lv_at hl 2 rfl) ?_
        refine lv_iload_n E.1 E.2.1 dX9_vote_48 rfl (lv_at hl 3 rfl) ?_
        refine x_calli E h hl 0 hf (fun r0 Sq0 hr => c_X9_votes l D cy s00 _ S4 p0 p1 r0 Sq0 hr) m_X9_votes rfl rfl kw1566 rfl rfl (Nat.le_of_ble_eq_true rfl) ⟨by decide, by decide⟩ ⟨Nat.zero_le _, Nat.zero_le _⟩ dX9_vote_49 (fun v5 S6 H locs hf h => ?_)
        refine x_br hf (lv_if_eq (tgt := 59) E.1 E.2.1 dX9_vote_52 (by decide)) (fun hf => ?_) (fun hf => ?_)
        · refine lv_iconst (v := 0) E.1 E.2.1 dX9_vote_59 (by decide) ?_
          refine x_calli E h hl 0 hf (fun r0 Sq0 hr => c_X9_remember l D cy s00 _ S6 0 r0 Sq0 hr) m_X9_remember rfl rfl kw1709 rfl rfl (Nat.le_of_ble_eq_true rfl) ⟨by decide, by decide⟩ ⟨Nat.zero_le _, Nat.zero_le _⟩ dX9_vote_60 (fun v7 S8 H locs hf h => ?_)
          refine lv_iconst (v := 1) E.1 E.2.1 dX9_vote_63 (by decide) ?_
          refine x_brn hf (lv_icmp_ne (tgt := 71) E.1 E.2.1 dX9_vote_64 (by decide)) (fun hf => ?_) (fun hf => ?_)
          · refine lv_iconst (v := 0) E.1 E.2.1 dX9_vote_71 (by decide) ?_
            exact x_zic E h (by decide) hf dX9_vote_72
          · refine lv_iconst (v := 1) E.1 E.2.1 dX9_vote_67 (by decide) ?_
            refine lv_goto (tgt := 72) E.1 E.2.1 dX9_vote_68 (by decide) ?_
            exact x_zic E h (by decide) hf dX9_vote_72
        · refine lv_iconst (v := 1) E.1 E.2.1 dX9_vote_55 (by decide) ?_
          refine lv_goto (tgt := 60) E.1 E.2.1 dX9_vote_56 (by decide) ?_
          refine x_calli E h hl 0 hf (fun r0 Sq0 hr => c_X9_remember l D cy s00 _ S6 1 r0 Sq0 hr) m_X9_remember rfl rfl kw1709 rfl rfl (Nat.le_of_ble_eq_true rfl) ⟨by decide, by decide⟩ ⟨Nat.zero_le _, Nat.zero_le _⟩ dX9_vote_60 (fun v9 S10 H locs hf h => ?_)
          refine lv_iconst (v := 1) E.1 E.2.1 dX9_vote_63 (by decide) ?_
          refine x_brn hf (lv_icmp_ne (tgt := 71) E.1 E.2.1 dX9_vote_64 (by decide)) (fun hf => ?_) (fun hf => ?_)
          · refine lv_iconst (v := 0) E.1 E.2.1 dX9_vote_71 (by decide) ?_
            exact x_zic E h (by decide) hf dX9_vote_72
          · refine lv_iconst (v := 1) E.1 E.2.1 dX9_vote_67 (by decide) ?_
            refine lv_goto (tgt := 72) E.1 E.2.1 dX9_vote_68 (by decide) ?_
            exact x_zic E h (by decide) hf dX9_vote_72
      · refine lv_iconst (v := 0) E.1 E.2.1 dX9_vote_39 (by decide) ?_
        exact x_zic E h (by decide) hf dX9_vote_40
    · refine lv_aload_n E.1 E.2.1 dX9_vote_20 rfl (lv_at hl 1 rfl) ?_
      refine lv_iload_n E.1 E.2.1 dX9_vote_21 rfl (lv_at hl 2 rfl) ?_
      refine x_callp E h hl 0 hf (fun r0 hr => c_X9_canVote l D cy s00 _ S p0 r0 hr) m_X9_canVote rfl rfl kw1562 rfl rfl (Nat.le_of_ble_eq_true rfl) ⟨by decide, by decide⟩ ⟨Nat.zero_le _, Nat.zero_le _⟩ dX9_vote_22 (fun v11 H locs hf h => ?_)
      refine x_brn hf (lv_if_ne (tgt := 32) E.1 E.2.1 dX9_vote_25 (by decide)) (fun hf => ?_) (fun hf => ?_)
      · refine lv_iconst (v := 0) E.1 E.2.1 dX9_vote_32 (by decide) ?_
        refine x_calli E h hl 0 hf (fun r0 Sq0 hr => c_X9_throwsOne_ l D cy s00 _ S 0 0 r0 Sq0 hr) m_X9_throwsOne_ rfl rfl kw1717 rfl rfl (Nat.le_of_ble_eq_true rfl) ⟨by decide, by decide⟩ ⟨Nat.zero_le _, Nat.zero_le _⟩ dX9_vote_33 (fun v12 S13 H locs hf h => ?_)
        refine x_br hf (lv_if_eq (tgt := 41) E.1 E.2.1 dX9_vote_36 (by decide)) (fun hf => ?_) (fun hf => ?_)
        · refine lv_aload_n E.1 E.2.1 dX9_vote_41 rfl (lv_at hl 1 rfl) ?_
          refine x_callv E h hl 0 hf (fun r0 hr => c_X9_begins l D cy s00 _ S13  r0 hr) m_X9_begins rfl rfl kw1705 rfl rfl (Nat.le_of_ble_eq_true rfl) ⟨by decide, by decide⟩ ⟨Nat.zero_le _, Nat.zero_le _⟩ dX9_vote_42 (fun S14 H locs hf h => ?_)
          refine lv_aload_n E.1 E.2.1 dX9_vote_45 rfl (lv_at hl 1 rfl) ?_
          refine lv_aload_n E.1 E.2.1 dX9_vote_46 rfl (lv_at hl 1 rfl) ?_
          refine lv_iload_n E.1 E.2.1 dX9_vote_47 rfl (lv_at hl 2 rfl) ?_
          refine lv_iload_n E.1 E.2.1 dX9_vote_48 rfl (lv_at hl 3 rfl) ?_
          refine x_calli E h hl 0 hf (fun r0 Sq0 hr => c_X9_votes l D cy s00 _ S14 p0 p1 r0 Sq0 hr) m_X9_votes rfl rfl kw1566 rfl rfl (Nat.le_of_ble_eq_true rfl) ⟨by decide, by decide⟩ ⟨Nat.zero_le _, Nat.zero_le _⟩ dX9_vote_49 (fun v15 S16 H locs hf h => ?_)
          refine x_br hf (lv_if_eq (tgt := 59) E.1 E.2.1 dX9_vote_52 (by decide)) (fun hf => ?_) (fun hf => ?_)
          · refine lv_iconst (v := 0) E.1 E.2.1 dX9_vote_59 (by decide) ?_
            refine x_calli E h hl 0 hf (fun r0 Sq0 hr => c_X9_remember l D cy s00 _ S16 0 r0 Sq0 hr) m_X9_remember rfl rfl kw1709 rfl rfl (Nat.le_of_ble_eq_true rfl) ⟨by decide, by decide⟩ ⟨Nat.zero_le _, Nat.zero_le _⟩ dX9_vote_60 (fun v17 S18 H locs hf h => ?_)
            refine lv_iconst (v := 1) E.1 E.2.1 dX9_vote_63 (by decide) ?_
            refine x_brn hf (lv_icmp_ne (tgt := 71) E.1 E.2.1 dX9_vote_64 (by decide)) (fun hf => ?_) (fun hf => ?_)
            · refine lv_iconst (v := 0) E.1 E.2.1 dX9_vote_71 (by decide) ?_
              exact x_zic E h (by decide) hf dX9_vote_72
            · refine lv_iconst (v := 1) E.1 E.2.1 dX9_vote_67 (by decide) ?_
              refine lv_goto (tgt := 72) E.1 E.2.1 dX9_vote_68 (by decide) ?_
              exact x_zic E h (by decide) hf dX9_vote_72
          · refine lv_iconst (v := 1) E.1 E.2.1 dX9_vote_55 (by decide) ?_
            refine lv_goto (tgt := 60) E.1 E.2.1 dX9_vote_56 (by decide) ?_
            refine x_calli E h hl 0 hf (fun r0 Sq0 hr => c_X9_remember l D cy s00 _ S16 1 r0 Sq0 hr) m_X9_remember rfl rfl kw1709 rfl rfl (Nat.le_of_ble_eq_true rfl) ⟨by decide, by decide⟩ ⟨Nat.zero_le _, Nat.zero_le _⟩ dX9_vote_60 (fun v19 S20 H locs hf h => ?_)
            refine lv_iconst (v := 1) E.1 E.2.1 dX9_vote_63 (by decide) ?_
            refine x_brn hf (lv_icmp_ne (tgt := 71) E.1 E.2.1 dX9_vote_64 (by decide)) (fun hf => ?_) (fun hf => ?_)
            · refine lv_iconst (v := 0) E.1 E.2.1 dX9_vote_71 (by decide) ?_
              exact x_zic E h (by decide) hf dX9_vote_72
            · refine lv_iconst (v := 1) E.1 E.2.1 dX9_vote_67 (by decide) ?_
              refine lv_goto (tgt := 72) E.1 E.2.1 dX9_vote_68 (by decide) ?_
              exact x_zic E h (by decide) hf dX9_vote_72
        · refine lv_iconst (v := 0) E.1 E.2.1 dX9_vote_39 (by decide) ?_
          exact x_zic E h (by decide) hf dX9_vote_40
      · refine lv_iconst (v := 1) E.1 E.2.1 dX9_vote_28 (by decide) ?_
        refine lv_goto (tgt := 33) E.1 E.2.1 dX9_vote_29 (by decide) ?_
        refine x_calli E h hl 0 hf (fun r0 Sq0 hr => c_X9_throwsOne_ l D cy s00 _ S 0 1 r0 Sq0 hr) m_X9_throwsOne_ rfl rfl kw1717 rfl rfl (Nat.le_of_ble_eq_true rfl) ⟨by decide, by decide⟩ ⟨Nat.zero_le _, Nat.zero_le _⟩ dX9_vote_33 (fun v21 S22 H locs hf h => ?_)
        refine x_br hf (lv_if_eq (tgt := 41) E.1 E.2.1 dX9_vote_36 (by decide)) (fun hf => ?_) (fun hf => ?_)
        · refine lv_aload_n E.1 E.2.1 dX9_vote_41 rfl (lv_at hl 1 rfl) ?_
          refine x_callv E h hl 0 hf (fun r0 hr => c_X9_begins l D cy s00 _ S22  r0 hr) m_X9_begins rfl rfl kw1705 rfl rfl (Nat.le_of_ble_eq_true rfl) ⟨by decide, by decide⟩ ⟨Nat.zero_le _, Nat.zero_le _⟩ dX9_vote_42 (fun S23 H locs hf h => ?_)
          refine lv_aload_n E.1 E.2.1 dX9_vote_45 rfl (lv_at hl 1 rfl) ?_
          refine lv_aload_n E.1 E.2.1 dX9_vote_46 rfl (lv_at hl 1 rfl) ?_
          refine lv_iload_n E.1 E.2.1 dX9_vote_47 rfl (lv_at hl 2 rfl) ?_
          refine lv_iload_n E.1 E.2.1 dX9_vote_48 rfl (lv_at hl 3 rfl) ?_
          refine x_calli E h hl 0 hf (fun r0 Sq0 hr => c_X9_votes l D cy s00 _ S23 p0 p1 r0 Sq0 hr) m_X9_votes rfl rfl kw1566 rfl rfl (Nat.le_of_ble_eq_true rfl) ⟨by decide, by decide⟩ ⟨Nat.zero_le _, Nat.zero_le _⟩ dX9_vote_49 (fun v24 S25 H locs hf h => ?_)
          refine x_br hf (lv_if_eq (tgt := 59) E.1 E.2.1 dX9_vote_52 (by decide)) (fun hf => ?_) (fun hf => ?_)
          · refine lv_iconst (v := 0) E.1 E.2.1 dX9_vote_59 (by decide) ?_
            refine x_calli E h hl 0 hf (fun r0 Sq0 hr => c_X9_remember l D cy s00 _ S25 0 r0 Sq0 hr) m_X9_remember rfl rfl kw1709 rfl rfl (Nat.le_of_ble_eq_true rfl) ⟨by decide, by decide⟩ ⟨Nat.zero_le _, Nat.zero_le _⟩ dX9_vote_60 (fun v26 S27 H locs hf h => ?_)
            refine lv_iconst (v := 1) E.1 E.2.1 dX9_vote_63 (by decide) ?_
            refine x_brn hf (lv_icmp_ne (tgt := 71) E.1 E.2.1 dX9_vote_64 (by decide)) (fun hf => ?_) (fun hf => ?_)
            · refine lv_iconst (v := 0) E.1 E.2.1 dX9_vote_71 (by decide) ?_
              exact x_zic E h (by decide) hf dX9_vote_72
            · refine lv_iconst (v := 1) E.1 E.2.1 dX9_vote_67 (by decide) ?_
              refine lv_goto (tgt := 72) E.1 E.2.1 dX9_vote_68 (by decide) ?_
              exact x_zic E h (by decide) hf dX9_vote_72
          · refine lv_iconst (v := 1) E.1 E.2.1 dX9_vote_55 (by decide) ?_
            refine lv_goto (tgt := 60) E.1 E.2.1 dX9_vote_56 (by decide) ?_
            refine x_calli E h hl 0 hf (fun r0 Sq0 hr => c_X9_remember l D cy s00 _ S25 1 r0 Sq0 hr) m_X9_remember rfl rfl kw1709 rfl rfl (Nat.le_of_ble_eq_true rfl) ⟨by decide, by decide⟩ ⟨Nat.zero_le _, Nat.zero_le _⟩ dX9_vote_60 (fun v28 S29 H locs hf h => ?_)
            refine lv_iconst (v := 1) E.1 E.2.1 dX9_vote_63 (by decide) ?_
            refine x_brn hf (lv_icmp_ne (tgt := 71) E.1 E.2.1 dX9_vote_64 (by decide)) (fun hf => ?_) (fun hf => ?_)
            · refine lv_iconst (v := 0) E.1 E.2.1 dX9_vote_71 (by decide) ?_
              exact x_zic E h (by decide) hf dX9_vote_72
            · refine lv_iconst (v := 1) E.1 E.2.1 dX9_vote_67 (by decide) ?_
              refine lv_goto (tgt := 72) E.1 E.2.1 dX9_vote_68 (by decide) ?_
              exact x_zic E h (by decide) hf dX9_vote_72
        · refine lv_iconst (v := 0) E.1 E.2.1 dX9_vote_39 (by decide) ?_
          exact x_zic E h (by decide) hf dX9_vote_40
  · refine lv_iconst (v := 1) E.1 E.2.1 dX9_vote_11 (by decide) ?_
    refine lv_goto (tgt := 16) E.1 E.2.1 dX9_vote_12 (by decide) ?_
    refine lv_iload_n E.1 E.2.1 dX9_vote_16 rfl (lv_at hl 0 rfl) ?_
    refine x_br hf (lv_if_eq (tgt := 32) E.1 E.2.1 dX9_vote_17 (by decide)) (fun hf => ?_) (fun hf => ?_)
    · refine lv_iconst (v := 0) E.1 E.2.1 dX9_vote_32 (by decide) ?_
      refine x_calli E h hl 0 hf (fun r0 Sq0 hr => c_X9_throwsOne_ l D cy s00 _ S 1 0 r0 Sq0 hr) m_X9_throwsOne_ rfl rfl kw1717 rfl rfl (Nat.le_of_ble_eq_true rfl) ⟨by decide, by decide⟩ ⟨Nat.zero_le _, Nat.zero_le _⟩ dX9_vote_33 (fun v30 S31 H locs hf h => ?_)
      refine x_br hf (lv_if_eq (tgt := 41) E.1 E.2.1 dX9_vote_36 (by decide)) (fun hf => ?_) (fun hf => ?_)
      · refine lv_aload_n E.1 E.2.1 dX9_vote_41 rfl (lv_at hl 1 rfl) ?_
        refine x_callv E h hl 0 hf (fun r0 hr => c_X9_begins l D cy s00 _ S31  r0 hr) m_X9_begins rfl rfl kw1705 rfl rfl (Nat.le_of_ble_eq_true rfl) ⟨by decide, by decide⟩ ⟨Nat.zero_le _, Nat.zero_le _⟩ dX9_vote_42 (fun S32 H locs hf h => ?_)
        refine lv_aload_n E.1 E.2.1 dX9_vote_45 rfl (lv_at hl 1 rfl) ?_
        refine lv_aload_n E.1 E.2.1 dX9_vote_46 rfl (lv_at hl 1 rfl) ?_
        refine lv_iload_n E.1 E.2.1 dX9_vote_47 rfl (lv_at hl 2 rfl) ?_
        refine lv_iload_n E.1 E.2.1 dX9_vote_48 rfl (lv_at hl 3 rfl) ?_
        refine x_calli E h hl 0 hf (fun r0 Sq0 hr => c_X9_votes l D cy s00 _ S32 p0 p1 r0 Sq0 hr) m_X9_votes rfl rfl kw1566 rfl rfl (Nat.le_of_ble_eq_true rfl) ⟨by decide, by decide⟩ ⟨Nat.zero_le _, Nat.zero_le _⟩ dX9_vote_49 (fun v33 S34 H locs hf h => ?_)
        refine x_br hf (lv_if_eq (tgt := 59) E.1 E.2.1 dX9_vote_52 (by decide)) (fun hf => ?_) (fun hf => ?_)
        · refine lv_iconst (v := 0) E.1 E.2.1 dX9_vote_59 (by decide) ?_
          refine x_calli E h hl 0 hf (fun r0 Sq0 hr => c_X9_remember l D cy s00 _ S34 0 r0 Sq0 hr) m_X9_remember rfl rfl kw1709 rfl rfl (Nat.le_of_ble_eq_true rfl) ⟨by decide, by decide⟩ ⟨Nat.zero_le _, Nat.zero_le _⟩ dX9_vote_60 (fun v35 S36 H locs hf h => ?_)
          refine lv_iconst (v := 1) E.1 E.2.1 dX9_vote_63 (by decide) ?_
          refine x_brn hf (lv_icmp_ne (tgt := 71) E.1 E.2.1 dX9_vote_64 (by decide)) (fun hf => ?_) (fun hf => ?_)
          · refine lv_iconst (v := 0) E.1 E.2.1 dX9_vote_71 (by decide) ?_
            exact x_zic E h (by decide) hf dX9_vote_72
          · refine lv_iconst (v := 1) E.1 E.2.1 dX9_vote_67 (by decide) ?_
            refine lv_goto (tgt := 72) E.1 E.2.1 dX9_vote_68 (by decide) ?_
            exact x_zic E h (by decide) hf dX9_vote_72
        · refine lv_iconst (v := 1) E.1 E.2.1 dX9_vote_55 (by decide) ?_
          refine lv_goto (tgt := 60) E.1 E.2.1 dX9_vote_56 (by decide) ?_
          refine x_calli E h hl 0 hf (fun r0 Sq0 hr => c_X9_remember l D cy s00 _ S34 1 r0 Sq0 hr) m_X9_remember rfl rfl kw1709 rfl rfl (Nat.le_of_ble_eq_true rfl) ⟨by decide, by decide⟩ ⟨Nat.zero_le _, Nat.zero_le _⟩ dX9_vote_60 (fun v37 S38 H locs hf h => ?_)
          refine lv_iconst (v := 1) E.1 E.2.1 dX9_vote_63 (by decide) ?_
          refine x_brn hf (lv_icmp_ne (tgt := 71) E.1 E.2.1 dX9_vote_64 (by decide)) (fun hf => ?_) (fun hf => ?_)
          · refine lv_iconst (v := 0) E.1 E.2.1 dX9_vote_71 (by decide) ?_
            exact x_zic E h (by decide) hf dX9_vote_72
          · refine lv_iconst (v := 1) E.1 E.2.1 dX9_vote_67 (by decide) ?_
            refine lv_goto (tgt := 72) E.1 E.2.1 dX9_vote_68 (by decide) ?_
            exact x_zic E h (by decide) hf dX9_vote_72
      · refine lv_iconst (v := 0) E.1 E.2.1 dX9_vote_39 (by decide) ?_
        exact x_zic E h (by decide) hf dX9_vote_40
    · refine lv_aload_n E.1 E.2.1 dX9_vote_20 rfl (lv_at hl 1 rfl) ?_
      refine lv_iload_n E.1 E.2.1 dX9_vote_21 rfl (lv_at hl 2 rfl) ?_
      refine x_callp E h hl 0 hf (fun r0 hr => c_X9_canVote l D cy s00 _ S p0 r0 hr) m_X9_canVote rfl rfl kw1562 rfl rfl (Nat.le_of_ble_eq_true rfl) ⟨by decide, by decide⟩ ⟨Nat.zero_le _, Nat.zero_le _⟩ dX9_vote_22 (fun v39 H locs hf h => ?_)
      refine x_brn hf (lv_if_ne (tgt := 32) E.1 E.2.1 dX9_vote_25 (by decide)) (fun hf => ?_) (fun hf => ?_)
      · refine lv_iconst (v := 0) E.1 E.2.1 dX9_vote_32 (by decide) ?_
        refine x_calli E h hl 0 hf (fun r0 Sq0 hr => c_X9_throwsOne_ l D cy s00 _ S 1 0 r0 Sq0 hr) m_X9_throwsOne_ rfl rfl kw1717 rfl rfl (Nat.le_of_ble_eq_true rfl) ⟨by decide, by decide⟩ ⟨Nat.zero_le _, Nat.zero_le _⟩ dX9_vote_33 (fun v40 S41 H locs hf h => ?_)
        refine x_br hf (lv_if_eq (tgt := 41) E.1 E.2.1 dX9_vote_36 (by decide)) (fun hf => ?_) (fun hf => ?_)
        · refine lv_aload_n E.1 E.2.1 dX9_vote_41 rfl (lv_at hl 1 rfl) ?_
          refine x_callv E h hl 0 hf (fun r0 hr => c_X9_begins l D cy s00 _ S41  r0 hr) m_X9_begins rfl rfl kw1705 rfl rfl (Nat.le_of_ble_eq_true rfl) ⟨by decide, by decide⟩ ⟨Nat.zero_le _, Nat.zero_le _⟩ dX9_vote_42 (fun S42 H locs hf h => ?_)
          refine lv_aload_n E.1 E.2.1 dX9_vote_45 rfl (lv_at hl 1 rfl) ?_
          refine lv_aload_n E.1 E.2.1 dX9_vote_46 rfl (lv_at hl 1 rfl) ?_
          refine lv_iload_n E.1 E.2.1 dX9_vote_47 rfl (lv_at hl 2 rfl) ?_
          refine lv_iload_n E.1 E.2.1 dX9_vote_48 rfl (lv_at hl 3 rfl) ?_
          refine x_calli E h hl 0 hf (fun r0 Sq0 hr => c_X9_votes l D cy s00 _ S42 p0 p1 r0 Sq0 hr) m_X9_votes rfl rfl kw1566 rfl rfl (Nat.le_of_ble_eq_true rfl) ⟨by decide, by decide⟩ ⟨Nat.zero_le _, Nat.zero_le _⟩ dX9_vote_49 (fun v43 S44 H locs hf h => ?_)
          refine x_br hf (lv_if_eq (tgt := 59) E.1 E.2.1 dX9_vote_52 (by decide)) (fun hf => ?_) (fun hf => ?_)
          · refine lv_iconst (v := 0) E.1 E.2.1 dX9_vote_59 (by decide) ?_
            refine x_calli E h hl 0 hf (fun r0 Sq0 hr => c_X9_remember l D cy s00 _ S44 0 r0 Sq0 hr) m_X9_remember rfl rfl kw1709 rfl rfl (Nat.le_of_ble_eq_true rfl) ⟨by decide, by decide⟩ ⟨Nat.zero_le _, Nat.zero_le _⟩ dX9_vote_60 (fun v45 S46 H locs hf h => ?_)
            refine lv_iconst (v := 1) E.1 E.2.1 dX9_vote_63 (by decide) ?_
            refine x_brn hf (lv_icmp_ne (tgt := 71) E.1 E.2.1 dX9_vote_64 (by decide)) (fun hf => ?_) (fun hf => ?_)
            · refine lv_iconst (v := 0) E.1 E.2.1 dX9_vote_71 (by decide) ?_
              exact x_zic E h (by decide) hf dX9_vote_72
            · refine lv_iconst (v := 1) E.1 E.2.1 dX9_vote_67 (by decide) ?_
              refine lv_goto (tgt := 72) E.1 E.2.1 dX9_vote_68 (by decide) ?_
              exact x_zic E h (by decide) hf dX9_vote_72
          · refine lv_iconst (v := 1) E.1 E.2.1 dX9_vote_55 (by decide) ?_
            refine lv_goto (tgt := 60) E.1 E.2.1 dX9_vote_56 (by decide) ?_
            refine x_calli E h hl 0 hf (fun r0 Sq0 hr => c_X9_remember l D cy s00 _ S44 1 r0 Sq0 hr) m_X9_remember rfl rfl kw1709 rfl rfl (Nat.le_of_ble_eq_true rfl) ⟨by decide, by decide⟩ ⟨Nat.zero_le _, Nat.zero_le _⟩ dX9_vote_60 (fun v47 S48 H locs hf h => ?_)
            refine lv_iconst (v := 1) E.1 E.2.1 dX9_vote_63 (by decide) ?_
            refine x_brn hf (lv_icmp_ne (tgt := 71) E.1 E.2.1 dX9_vote_64 (by decide)) (fun hf => ?_) (fun hf => ?_)
            · refine lv_iconst (v := 0) E.1 E.2.1 dX9_vote_71 (by decide) ?_
              exact x_zic E h (by decide) hf dX9_vote_72
            · refine lv_iconst (v := 1) E.1 E.2.1 dX9_vote_67 (by decide) ?_
              refine lv_goto (tgt := 72) E.1 E.2.1 dX9_vote_68 (by decide) ?_
              exact x_zic E h (by decide) hf dX9_vote_72
        · refine lv_iconst (v := 0) E.1 E.2.1 dX9_vote_39 (by decide) ?_
          exact x_zic E h (by decide) hf dX9_vote_40
      · refine lv_iconst (v := 1) E.1 E.2.1 dX9_vote_28 (by decide) ?_
        refine lv_goto (tgt := 33) E.1 E.2.1 dX9_vote_29 (by decide) ?_
        refine x_calli E h hl 0 hf (fun r0 Sq0 hr => c_X9_throwsOne_ l D cy s00 _ S 1 1 r0 Sq0 hr) m_X9_throwsOne_ rfl rfl kw1717 rfl rfl (Nat.le_of_ble_eq_true rfl) ⟨by decide, by decide⟩ ⟨Nat.zero_le _, Nat.zero_le _⟩ dX9_vote_33 (fun v49 S50 H locs hf h => ?_)
        refine x_br hf (lv_if_eq (tgt := 41) E.1 E.2.1 dX9_vote_36 (by decide)) (fun hf => ?_) (fun hf => ?_)
        · refine lv_aload_n E.1 E.2.1 dX9_vote_41 rfl (lv_at hl 1 rfl) ?_
          refine x_callv E h hl 0 hf (fun r0 hr => c_X9_begins l D cy s00 _ S50  r0 hr) m_X9_begins rfl rfl kw1705 rfl rfl (Nat.le_of_ble_eq_true rfl) ⟨by decide, by decide⟩ ⟨Nat.zero_le _, Nat.zero_le _⟩ dX9_vote_42 (fun S51 H locs hf h => ?_)
          refine lv_aload_n E.1 E.2.1 dX9_vote_45 rfl (lv_at hl 1 rfl) ?_
          refine lv_aload_n E.1 E.2.1 dX9_vote_46 rfl (lv_at hl 1 rfl) ?_
          refine lv_iload_n E.1 E.2.1 dX9_vote_47 rfl (lv_at hl 2 rfl) ?_
          refine lv_iload_n E.1 E.2.1 dX9_vote_48 rfl (lv_at hl 3 rfl) ?_
          refine x_calli E h hl 0 hf (fun r0 Sq0 hr => c_X9_votes l D cy s00 _ S51 p0 p1 r0 Sq0 hr) m_X9_votes rfl rfl kw1566 rfl rfl (Nat.le_of_ble_eq_true rfl) ⟨by decide, by decide⟩ ⟨Nat.zero_le _, Nat.zero_le _⟩ dX9_vote_49 (fun v52 S53 H locs hf h => ?_)
          refine x_br hf (lv_if_eq (tgt := 59) E.1 E.2.1 dX9_vote_52 (by decide)) (fun hf => ?_) (fun hf => ?_)
          · refine lv_iconst (v := 0) E.1 E.2.1 dX9_vote_59 (by decide) ?_
            refine x_calli E h hl 0 hf (fun r0 Sq0 hr => c_X9_remember l D cy s00 _ S53 0 r0 Sq0 hr) m_X9_remember rfl rfl kw1709 rfl rfl (Nat.le_of_ble_eq_true rfl) ⟨by decide, by decide⟩ ⟨Nat.zero_le _, Nat.zero_le _⟩ dX9_vote_60 (fun v54 S55 H locs hf h => ?_)
            refine lv_iconst (v := 1) E.1 E.2.1 dX9_vote_63 (by decide) ?_
            refine x_brn hf (lv_icmp_ne (tgt := 71) E.1 E.2.1 dX9_vote_64 (by decide)) (fun hf => ?_) (fun hf => ?_)
            · refine lv_iconst (v := 0) E.1 E.2.1 dX9_vote_71 (by decide) ?_
              exact x_zic E h (by decide) hf dX9_vote_72
            · refine lv_iconst (v := 1) E.1 E.2.1 dX9_vote_67 (by decide) ?_
              refine lv_goto (tgt := 72) E.1 E.2.1 dX9_vote_68 (by decide) ?_
              exact x_zic E h (by decide) hf dX9_vote_72
          · refine lv_iconst (v := 1) E.1 E.2.1 dX9_vote_55 (by decide) ?_
            refine lv_goto (tgt := 60) E.1 E.2.1 dX9_vote_56 (by decide) ?_
            refine x_calli E h hl 0 hf (fun r0 Sq0 hr => c_X9_remember l D cy s00 _ S53 1 r0 Sq0 hr) m_X9_remember rfl rfl kw1709 rfl rfl (Nat.le_of_ble_eq_true rfl) ⟨by decide, by decide⟩ ⟨Nat.zero_le _, Nat.zero_le _⟩ dX9_vote_60 (fun v56 S57 H locs hf h => ?_)
            refine lv_iconst (v := 1) E.1 E.2.1 dX9_vote_63 (by decide) ?_
            refine x_brn hf (lv_icmp_ne (tgt := 71) E.1 E.2.1 dX9_vote_64 (by decide)) (fun hf => ?_) (fun hf => ?_)
            · refine lv_iconst (v := 0) E.1 E.2.1 dX9_vote_71 (by decide) ?_
              exact x_zic E h (by decide) hf dX9_vote_72
            · refine lv_iconst (v := 1) E.1 E.2.1 dX9_vote_67 (by decide) ?_
              refine lv_goto (tgt := 72) E.1 E.2.1 dX9_vote_68 (by decide) ?_
              exact x_zic E h (by decide) hf dX9_vote_72
        · refine lv_iconst (v := 0) E.1 E.2.1 dX9_vote_39 (by decide) ?_
          exact x_zic E h (by decide) hf dX9_vote_40
set_option maxHeartbeats 4000000 in
set_option maxRecDepth 100000 in
theorem c_X9_passNights (l : Launch) (D : va_G) (cy : Nat → ClassId) (s00 : State) (ad : Nat → Nat) (S : XS) (p0 : Int32) (r9 : Int32) (S9 : XS) (hf : f_X9_passNights S p0 = some (r9, S9)) : XI l yX9_passNights cX9_passNights 3 (some .int) 7 D cy s00 shMod ad S [.ref (ad 0), .int p0] r9 S9 := by
  refine XI.of (by decide) [(0, .ref (ad 0)), (1, .int p0)] rfl (Nat.le_of_ble_eq_true rfl) (fun p e s m args below meth c A ls E h hl => ?_)
  unfold f_X9_passNights at hf
  refine lv_iload_n E.1 E.2.1 dX9_passNights_0 rfl (lv_at hl 1 rfl) ?_
  refine lv_iconst (v := 1) E.1 E.2.1 dX9_passNights_1 (by decide) ?_
  refine lv_bipush (v := 30) E.1 E.2.1 dX9_passNights_2 (by decide) ?_
  refine x_callsp E h hl hf (fun r0 hr => c_X9_in l D cy s00 _ _ p0 1 30 r0 hr) m_X9_in kw1378 rfl rfl (Nat.le_of_ble_eq_true rfl) ⟨by decide, by decide⟩ ⟨Nat.zero_le _, Nat.zero_le _⟩ dX9_passNights_4 (fun v1 H locs hf h => ?_)
  refine x_brn hf (lv_if_ne (tgt := 14) E.1 E.2.1 dX9_passNights_7 (by decide)) (fun hf => ?_) (fun hf => ?_)
  · refine lv_iconst (v := 0) E.1 E.2.1 dX9_passNights_14 (by decide) ?_
    refine lv_istore_n (lv' := [(2, .int 0), (0, .ref (ad 0)), (1, .int p0)]) E.1 E.2.1 dX9_passNights_15 rfl hl (by decide) rfl (fun ls hl => ?_)
    refine lv_aload_n E.1 E.2.1 dX9_passNights_16 rfl (lv_at hl 1 rfl) ?_
    refine lv_iload_n E.1 E.2.1 dX9_passNights_17 rfl (lv_at hl 0 rfl) ?_
    refine lv_iload_n E.1 E.2.1 dX9_passNights_18 rfl (lv_at hl 0 rfl) ?_
    refine lv_if_ne (tgt := 40) E.1 E.2.1 dX9_passNights_19 (by decide) (fun c9 => absurd c9 (by decide)) (fun _ => ?_)
    refine lv_aload_n E.1 E.2.1 dX9_passNights_22 rfl (lv_at hl 1 rfl) ?_
    refine x_getr E h 0 0 1 rfl rfl rfl (by decide) xinX9 kw1610 dX9_passNights_23 ?_
    refine lv_iconst (v := 3) E.1 E.2.1 dX9_passNights_26 (by decide) ?_
    refine x_iald E h 1 hf rfl dX9_passNights_27 (fun v2 hf => ?_)
    refine lv_iload_n E.1 E.2.1 dX9_passNights_28 rfl (lv_at hl 2 rfl) ?_
    refine lv_iadd E.1 E.2.1 dX9_passNights_29 ?_
    refine lv_sipush (v := 999) E.1 E.2.1 dX9_passNights_30 (by decide) ?_
    refine x_br hf (lv_icmp_le (tgt := 40) E.1 E.2.1 dX9_passNights_33 (by decide)) (fun hf => ?_) (fun hf => ?_)
    · refine lv_iconst (v := 0) E.1 E.2.1 dX9_passNights_40 (by decide) ?_
      refine x_calli E h hl 0 hf (fun r0 Sq0 hr => c_X9_throwsOne_ l D cy s00 _ S 0 0 r0 Sq0 hr) m_X9_throwsOne_ rfl rfl kw1717 rfl rfl (Nat.le_of_ble_eq_true rfl) ⟨by decide, by decide⟩ ⟨Nat.zero_le _, Nat.zero_le _⟩ dX9_passNights_41 (fun v3 S4 H locs hf h => ?_)
      refine x_br hf (lv_if_eq (tgt := 49) E.1 E.2.1 dX9_passNights_44 (by decide)) (fun hf => ?_) (fun hf => ?_)
      · refine lv_aload_n E.1 E.2.1 dX9_passNights_49 rfl (lv_at hl 1 rfl) ?_
        refine x_callv E h hl 0 hf (fun r0 hr => c_X9_begins l D cy s00 _ S4  r0 hr) m_X9_begins rfl rfl kw1705 rfl rfl (Nat.le_of_ble_eq_true rfl) ⟨by decide, by decide⟩ ⟨Nat.zero_le _, Nat.zero_le _⟩ dX9_passNights_50 (fun S5 H locs hf h => ?_)
        refine lv_aload_n E.1 E.2.1 dX9_passNights_53 rfl (lv_at hl 1 rfl) ?_
        refine lv_aload_n E.1 E.2.1 dX9_passNights_54 rfl (lv_at hl 1 rfl) ?_
        refine lv_iload_n E.1 E.2.1 dX9_passNights_55 rfl (lv_at hl 2 rfl) ?_
        refine x_calli E h hl 0 hf (fun r0 Sq0 hr => c_X9_passes l D cy s00 _ S5 p0 r0 Sq0 hr) m_X9_passes rfl rfl kw1585 rfl rfl (Nat.le_of_ble_eq_true rfl) ⟨by decide, by decide⟩ ⟨Nat.zero_le _, Nat.zero_le _⟩ dX9_passNights_56 (fun v6 S7 H locs hf h => ?_)
        refine x_calli E h hl 0 hf (fun r0 Sq0 hr => c_X9_remember l D cy s00 _ S7 v6 r0 Sq0 hr) m_X9_remember rfl rfl kw1709 rfl rfl (Nat.le_of_ble_eq_true rfl) ⟨by decide, by decide⟩ ⟨Nat.zero_le _, Nat.zero_le _⟩ dX9_passNights_59 (fun v8 S9 H locs hf h => ?_)
        exact x_iret E h hf dX9_passNights_62
      · refine lv_iconst (v := 0) E.1 E.2.1 dX9_passNights_47 (by decide) ?_
        exact x_iret E h hf dX9_passNights_48
    · refine lv_iconst (v := 1) E.1 E.2.1 dX9_passNights_36 (by decide) ?_
      refine lv_goto (tgt := 41) E.1 E.2.1 dX9_passNights_37 (by decide) ?_
      refine x_calli E h hl 0 hf (fun r0 Sq0 hr => c_X9_throwsOne_ l D cy s00 _ S 0 1 r0 Sq0 hr) m_X9_throwsOne_ rfl rfl kw1717 rfl rfl (Nat.le_of_ble_eq_true rfl) ⟨by decide, by decide⟩ ⟨Nat.zero_le _, Nat.zero_le _⟩ dX9_passNights_41 (fun v10 S11 H locs hf h => ?_)
      refine x_br hf (lv_if_eq (tgt := 49) E.1 E.2.1 dX9_passNights_44 (by decide)) (fun hf => ?_) (fun hf => ?_)
      · refine lv_aload_n E.1 E.2.1 dX9_passNights_49 rfl (lv_at hl 1 rfl) ?_
        refine x_callv E h hl 0 hf (fun r0 hr => c_X9_begins l D cy s00 _ S11  r0 hr) m_X9_begins rfl rfl kw1705 rfl rfl (Nat.le_of_ble_eq_true rfl) ⟨by decide, by decide⟩ ⟨Nat.zero_le _, Nat.zero_le _⟩ dX9_passNights_50 (fun S12 H locs hf h => ?_)
        refine lv_aload_n E.1 E.2.1 dX9_passNights_53 rfl (lv_at hl 1 rfl) ?_
        refine lv_aload_n E.1 E.2.1 dX9_passNights_54 rfl (lv_at hl 1 rfl) ?_
        refine lv_iload_n E.1 E.2.1 dX9_passNights_55 rfl (lv_at hl 2 rfl) ?_
        refine x_calli E h hl 0 hf (fun r0 Sq0 hr => c_X9_passes l D cy s00 _ S12 p0 r0 Sq0 hr) m_X9_passes rfl rfl kw1585 rfl rfl (Nat.le_of_ble_eq_true rfl) ⟨by decide, by decide⟩ ⟨Nat.zero_le _, Nat.zero_le _⟩ dX9_passNights_56 (fun v13 S14 H locs hf h => ?_)
        refine x_calli E h hl 0 hf (fun r0 Sq0 hr => c_X9_remember l D cy s00 _ S14 v13 r0 Sq0 hr) m_X9_remember rfl rfl kw1709 rfl rfl (Nat.le_of_ble_eq_true rfl) ⟨by decide, by decide⟩ ⟨Nat.zero_le _, Nat.zero_le _⟩ dX9_passNights_59 (fun v15 S16 H locs hf h => ?_)
        exact x_iret E h hf dX9_passNights_62
      · refine lv_iconst (v := 0) E.1 E.2.1 dX9_passNights_47 (by decide) ?_
        exact x_iret E h hf dX9_passNights_48
  · refine lv_iconst (v := 1) E.1 E.2.1 dX9_passNights_10 (by decide) ?_
    refine lv_goto (tgt := 15) E.1 E.2.1 dX9_passNights_11 (by decide) ?_
    refine lv_istore_n (lv' := [(2, .int 1), (0, .ref (ad 0)), (1, .int p0)]) E.1 E.2.1 dX9_passNights_15 rfl hl (by decide) rfl (fun ls hl => ?_)
    refine lv_aload_n E.1 E.2.1 dX9_passNights_16 rfl (lv_at hl 1 rfl) ?_
    refine lv_iload_n E.1 E.2.1 dX9_passNights_17 rfl (lv_at hl 0 rfl) ?_
    refine lv_iload_n E.1 E.2.1 dX9_passNights_18 rfl (lv_at hl 0 rfl) ?_
    refine lv_if_ne (tgt := 40) E.1 E.2.1 dX9_passNights_19 (by decide) (fun _ => ?_) (fun c9 => absurd c9 (by decide))
    refine lv_iconst (v := 0) E.1 E.2.1 dX9_passNights_40 (by decide) ?_
    refine x_calli E h hl 0 hf (fun r0 Sq0 hr => c_X9_throwsOne_ l D cy s00 _ S 1 0 r0 Sq0 hr) m_X9_throwsOne_ rfl rfl kw1717 rfl rfl (Nat.le_of_ble_eq_true rfl) ⟨by decide, by decide⟩ ⟨Nat.zero_le _, Nat.zero_le _⟩ dX9_passNights_41 (fun v17 S18 H locs hf h => ?_)
    refine x_br hf (lv_if_eq (tgt := 49) E.1 E.2.1 dX9_passNights_44 (by decide)) (fun hf => ?_) (fun hf => ?_)
    · refine lv_aload_n E.1 E.2.1 dX9_passNights_49 rfl (lv_at hl 1 rfl) ?_
      refine x_callv E h hl 0 hf (fun r0 hr => c_X9_begins l D cy s00 _ S18  r0 hr) m_X9_begins rfl rfl kw1705 rfl rfl (Nat.le_of_ble_eq_true rfl) ⟨by decide, by decide⟩ ⟨Nat.zero_le _, Nat.zero_le _⟩ dX9_passNights_50 (fun S19 H locs hf h => ?_)
      refine lv_aload_n E.1 E.2.1 dX9_passNights_53 rfl (lv_at hl 1 rfl) ?_
      refine lv_aload_n E.1 E.2.1 dX9_passNights_54 rfl (lv_at hl 1 rfl) ?_
      refine lv_iload_n E.1 E.2.1 dX9_passNights_55 rfl (lv_at hl 2 rfl) ?_
      refine x_calli E h hl 0 hf (fun r0 Sq0 hr => c_X9_passes l D cy s00 _ S19 p0 r0 Sq0 hr) m_X9_passes rfl rfl kw1585 rfl rfl (Nat.le_of_ble_eq_true rfl) ⟨by decide, by decide⟩ ⟨Nat.zero_le _, Nat.zero_le _⟩ dX9_passNights_56 (fun v20 S21 H locs hf h => ?_)
      refine x_calli E h hl 0 hf (fun r0 Sq0 hr => c_X9_remember l D cy s00 _ S21 v20 r0 Sq0 hr) m_X9_remember rfl rfl kw1709 rfl rfl (Nat.le_of_ble_eq_true rfl) ⟨by decide, by decide⟩ ⟨Nat.zero_le _, Nat.zero_le _⟩ dX9_passNights_59 (fun v22 S23 H locs hf h => ?_)
      exact x_iret E h hf dX9_passNights_62
    · refine lv_iconst (v := 0) E.1 E.2.1 dX9_passNights_47 (by decide) ?_
      exact x_iret E h hf dX9_passNights_48
set_option maxHeartbeats 4000000 in
set_option maxRecDepth 100000 in
theorem w_X9_undo_L26 {p : Program} {l : Launch} {e : Env} {s : State} {m : MethodId} {args : Array Value} {below : List Frame} {meth : Method} {c : Code} {D : va_G} {cy : Nat → ClassId} {s00 : State} {ad : Nat → Nat} {A : Nat → Prop}  {r9 : Int32} {S9 : XS}  {K : Int32 → XS → Option (Int32 × XS)} (E : XE p s m args meth c cX9_undo 2 RX9 (some .int) D cy s00) (hk : ∀ (m1 : Int32) (S1 : XS) (H : Heap) (locs : List Loc) (ls : Array Slot), K m1 S1 = some (r9, S9) → XH D cy s00 shMod ad S1 A s H locs → lv_has ls 2 [(0, .ref (ad 0)), (1, .int m1)] → W p l e (xrm 0) s m args below meth c H locs 0 0 (MQ below (xqi D cy shMod ad r9 S9 A) args s 0 0 A) (F0 m 60 ls [])) :
    ∀ (n : Nat) (m1 : Int32) (S : XS) (H : Heap) (locs : List Loc) (ls : Array Slot), f_X9_undo_L26 K n m1 S = some (r9, S9) → XH D cy s00 shMod ad S A s H locs → lv_has ls 2 [(0, .ref (ad 0)), (1, .int m1)] → W p l e (xrm 0) s m args below meth c H locs 0 0 (MQ below (xqi D cy shMod ad r9 S9 A) args s 0 0 A) (F0 m 26 ls []) := by
  intro n
  induction n with
  | zero => intro m1 S H locs ls hf; cases hf
  | succ n ih =>
    intro m1 S H locs ls hf h hl
    rw [f_X9_undo_L26] at hf
    refine lv_iload_n E.1 E.2.1 dX9_undo_26 rfl (lv_at hl 1 rfl) ?_
    refine lv_sipush (v := 186) E.1 E.2.1 dX9_undo_27 (by decide) ?_
    refine x_br hf (lv_icmp_ge (tgt := 60) E.1 E.2.1 dX9_undo_30 (by decide)) (fun hf => ?_) (fun hf => ?_)
    · exact hk _ _ _ _ _ hf h (lv_sub hl [0, 1] rfl)
    · refine lv_aload_n E.1 E.2.1 dX9_undo_33 rfl (lv_at hl 0 rfl) ?_
      refine x_getr E h 0 0 1 rfl rfl rfl (by decide) xinX9 kw1610 dX9_undo_34 ?_
      refine lv_iload_n E.1 E.2.1 dX9_undo_37 rfl (lv_at hl 1 rfl) ?_
      refine lv_aload_n E.1 E.2.1 dX9_undo_38 rfl (lv_at hl 0 rfl) ?_
      refine x_getr E h 0 3 4 rfl rfl rfl (by decide) xinX9 kw1613 dX9_undo_39 ?_
      refine lv_sipush (v := 186) E.1 E.2.1 dX9_undo_42 (by decide) ?_
      refine lv_aload_n E.1 E.2.1 dX9_undo_45 rfl (lv_at hl 0 rfl) ?_
      refine x_get E h 0 5 rfl rfl rfl (by decide) xinX9 kw1615 dX9_undo_46 ?_
      refine lv_imul E.1 E.2.1 dX9_undo_49 ?_
      refine lv_iload_n E.1 E.2.1 dX9_undo_50 rfl (lv_at hl 1 rfl) ?_
      refine lv_iadd E.1 E.2.1 dX9_undo_51 ?_
      refine x_iald E h 4 hf rfl dX9_undo_52 (fun v3 hf => ?_)
      refine x_iast E h 1 hf rfl dX9_undo_53 (fun S4 H locs hf h => ?_)
      refine x_nv hf (fun v6 e9 hf => ?_)
      refine lv_iinc (v := v6) (lv' := [(1, .int v6), (0, .ref (ad 0))]) E.1 E.2.1 dX9_undo_54 hl (k := 1) rfl (by rw [e9]; rfl) (by decide) rfl (fun ls hl => ?_)
      refine lv_goto (tgt := 26) E.1 E.2.1 dX9_undo_57 (by decide) ?_
      exact ih _ _ _ _ _ hf h (lv_sub hl [1, 0] rfl)
set_option maxHeartbeats 4000000 in
set_option maxRecDepth 100000 in
theorem c_X9_undo (l : Launch) (D : va_G) (cy : Nat → ClassId) (s00 : State) (ad : Nat → Nat) (S : XS) (r9 : Int32) (S9 : XS) (hf : f_X9_undo S = some (r9, S9)) : XI l yX9_undo cX9_undo 2 (some .int) 0 D cy s00 shMod ad S [.ref (ad 0)] r9 S9 := by
  refine XI.of (by decide) [(0, .ref (ad 0))] rfl (Nat.le_of_ble_eq_true rfl) (fun p e s m args below meth c A ls E h hl => ?_)
  unfold f_X9_undo at hf
  refine lv_aload_n E.1 E.2.1 dX9_undo_0 rfl (lv_at hl 0 rfl) ?_
  refine lv_iconst (v := 0) E.1 E.2.1 dX9_undo_1 (by decide) ?_
  refine x_put (ty := .int) E h 0 16 hf rfl rfl rfl (by decide) xinX9 tyX9_ok nmX9 kw1626 rfl (by decide +kernel) rfl rfl dX9_undo_2 (fun S1 H locs hf h => ?_)
  refine lv_aload_n E.1 E.2.1 dX9_undo_5 rfl (lv_at hl 0 rfl) ?_
  refine x_get E h 0 5 rfl rfl rfl (by decide) xinX9 kw1615 dX9_undo_6 ?_
  refine x_brn hf (lv_if_ne (tgt := 14) E.1 E.2.1 dX9_undo_9 (by decide)) (fun hf => ?_) (fun hf => ?_)
  · refine lv_aload_n E.1 E.2.1 dX9_undo_14 rfl (lv_at hl 0 rfl) ?_
    refine lv_dup E.1 E.2.1 dX9_undo_15 rfl ?_
    refine x_get E h 0 5 rfl rfl rfl (by decide) xinX9 kw1615 dX9_undo_16 ?_
    refine lv_iconst (v := 1) E.1 E.2.1 dX9_undo_19 (by decide) ?_
    refine lv_isub E.1 E.2.1 dX9_undo_20 ?_
    refine x_put (ty := .int) E h 0 5 hf rfl rfl rfl (by decide) xinX9 tyX9_ok nmX9 kw1615 rfl (by decide +kernel) rfl rfl dX9_undo_21 (fun S2 H locs hf h => ?_)
    refine lv_iconst (v := 0) E.1 E.2.1 dX9_undo_24 (by decide) ?_
    refine lv_istore_n (lv' := [(1, .int 0), (0, .ref (ad 0))]) E.1 E.2.1 dX9_undo_25 rfl hl (by decide) rfl (fun ls hl => ?_)
    refine w_X9_undo_L26 E ?_ _ _ _ _ _ _ hf h (lv_sub hl [1, 0] rfl)
    intro v7 S8 H locs ls hf h hl
    refine lv_aload_n E.1 E.2.1 dX9_undo_60 rfl (lv_at hl 0 rfl) ?_
    refine x_get E h 0 5 rfl rfl rfl (by decide) xinX9 kw1615 dX9_undo_61 ?_
    exact x_iret E h hf dX9_undo_64
  · refine lv_iconst (v := (-1)) E.1 E.2.1 dX9_undo_12 (by decide) ?_
    exact x_iret E h hf dX9_undo_13
set_option maxHeartbeats 4000000 in
set_option maxRecDepth 100000 in
theorem c_X9_undoCount (l : Launch) (D : va_G) (cy : Nat → ClassId) (s00 : State) (ad : Nat → Nat) (S : XS) (r9 : Int32) (S9 : XS) (hf : f_X9_undoCount S = some (r9, S9)) : XI l yX9_undoCount cX9_undoCount 1 (some .int) 0 D cy s00 shMod ad S [.ref (ad 0)] r9 S9 := by
  refine XI.of (by decide) [(0, .ref (ad 0))] rfl (Nat.le_of_ble_eq_true rfl) (fun p e s m args below meth c A ls E h hl => ?_)
  unfold f_X9_undoCount at hf
  refine lv_aload_n E.1 E.2.1 dX9_undoCount_0 rfl (lv_at hl 0 rfl) ?_
  refine lv_iconst (v := 0) E.1 E.2.1 dX9_undoCount_1 (by decide) ?_
  refine x_put (ty := .int) E h 0 16 hf rfl rfl rfl (by decide) xinX9 tyX9_ok nmX9 kw1626 rfl (by decide +kernel) rfl rfl dX9_undoCount_2 (fun S1 H locs hf h => ?_)
  refine lv_aload_n E.1 E.2.1 dX9_undoCount_5 rfl (lv_at hl 0 rfl) ?_
  refine x_get E h 0 5 rfl rfl rfl (by decide) xinX9 kw1615 dX9_undoCount_6 ?_
  exact x_iret E h hf dX9_undoCount_9
set_option maxHeartbeats 4000000 in
set_option maxRecDepth 100000 in
theorem w_X9_saveSnapshot_L12 {p : Program} {l : Launch} {e : Env} {s : State} {m : MethodId} {args : Array Value} {below : List Frame} {meth : Method} {c : Code} {D : va_G} {cy : Nat → ClassId} {s00 : State} {ad : Nat → Nat} {A : Nat → Prop}  {r9 : Int32} {S9 : XS}  {K : Int32 → XS → Option (Int32 × XS)} (E : XE p s m args meth c cX9_saveSnapshot 2 RX9 (some .int) D cy s00) (hk : ∀ (m1 : Int32) (S1 : XS) (H : Heap) (locs : List Loc) (ls : Array Slot), K m1 S1 = some (r9, S9) → XH D cy s00 shMod ad S1 A s H locs → lv_has ls 2 [(0, .ref (ad 0)), (1, .int m1)] → W p l e (xrm 0) s m args below meth c H locs 0 0 (MQ below (xqi D cy shMod ad r9 S9 A) args s 0 0 A) (F0 m 37 ls [])) :
    ∀ (n : Nat) (m1 : Int32) (S : XS) (H : Heap) (locs : List Loc) (ls : Array Slot), f_X9_saveSnapshot_L12 K n m1 S = some (r9, S9) → XH D cy s00 shMod ad S A s H locs → lv_has ls 2 [(0, .ref (ad 0)), (1, .int m1)] → W p l e (xrm 0) s m args below meth c H locs 0 0 (MQ below (xqi D cy shMod ad r9 S9 A) args s 0 0 A) (F0 m 12 ls []) := by
  intro n
  induction n with
  | zero => intro m1 S H locs ls hf; cases hf
  | succ n ih =>
    intro m1 S H locs ls hf h hl
    rw [f_X9_saveSnapshot_L12] at hf
    refine lv_iload_n E.1 E.2.1 dX9_saveSnapshot_12 rfl (lv_at hl 1 rfl) ?_
    refine lv_sipush (v := 186) E.1 E.2.1 dX9_saveSnapshot_13 (by decide) ?_
    refine x_br hf (lv_icmp_ge (tgt := 37) E.1 E.2.1 dX9_saveSnapshot_16 (by decide)) (fun hf => ?_) (fun hf => ?_)
    · exact hk _ _ _ _ _ hf h (lv_sub hl [0, 1] rfl)
    · refine lv_aload_n E.1 E.2.1 dX9_saveSnapshot_19 rfl (lv_at hl 0 rfl) ?_
      refine x_getr E h 0 4 5 rfl rfl rfl (by decide) xinX9 kw1614 dX9_saveSnapshot_20 ?_
      refine lv_iload_n E.1 E.2.1 dX9_saveSnapshot_23 rfl (lv_at hl 1 rfl) ?_
      refine lv_aload_n E.1 E.2.1 dX9_saveSnapshot_24 rfl (lv_at hl 0 rfl) ?_
      refine x_getr E h 0 0 1 rfl rfl rfl (by decide) xinX9 kw1610 dX9_saveSnapshot_25 ?_
      refine lv_iload_n E.1 E.2.1 dX9_saveSnapshot_28 rfl (lv_at hl 1 rfl) ?_
      refine x_iald E h 1 hf rfl dX9_saveSnapshot_29 (fun v3 hf => ?_)
      refine x_iast E h 5 hf rfl dX9_saveSnapshot_30 (fun S4 H locs hf h => ?_)
      refine x_nv hf (fun v6 e9 hf => ?_)
      refine lv_iinc (v := v6) (lv' := [(1, .int v6), (0, .ref (ad 0))]) E.1 E.2.1 dX9_saveSnapshot_31 hl (k := 1) rfl (by rw [e9]; rfl) (by decide) rfl (fun ls hl => ?_)
      refine lv_goto (tgt := 12) E.1 E.2.1 dX9_saveSnapshot_34 (by decide) ?_
      exact ih _ _ _ _ _ hf h (lv_sub hl [1, 0] rfl)
set_option maxHeartbeats 4000000 in
set_option maxRecDepth 100000 in
theorem c_X9_saveSnapshot (l : Launch) (D : va_G) (cy : Nat → ClassId) (s00 : State) (ad : Nat → Nat) (S : XS) (r9 : Int32) (S9 : XS) (hf : f_X9_saveSnapshot S = some (r9, S9)) : XI l yX9_saveSnapshot cX9_saveSnapshot 2 (some .int) 0 D cy s00 shMod ad S [.ref (ad 0)] r9 S9 := by
  refine XI.of (by decide) [(0, .ref (ad 0))] rfl (Nat.le_of_ble_eq_true rfl) (fun p e s m args below meth c A ls E h hl => ?_)
  unfold f_X9_saveSnapshot at hf
  refine lv_aload_n E.1 E.2.1 dX9_saveSnapshot_0 rfl (lv_at hl 0 rfl) ?_
  refine lv_iconst (v := 0) E.1 E.2.1 dX9_saveSnapshot_1 (by decide) ?_
  refine x_put (ty := .int) E h 0 16 hf rfl rfl rfl (by decide) xinX9 tyX9_ok nmX9 kw1626 rfl (by decide +kernel) rfl rfl dX9_saveSnapshot_2 (fun S1 H locs hf h => ?_)
  refine lv_aload_n E.1 E.2.1 dX9_saveSnapshot_5 rfl (lv_at hl 0 rfl) ?_
  refine lv_iconst (v := 1) E.1 E.2.1 dX9_saveSnapshot_6 (by decide) ?_
  refine x_put (ty := .boolean) E h 0 6 hf rfl rfl rfl (by decide) xinX9 tyX9_ok nmX9 kw1616 rfl (by decide +kernel) (by decide) (by decide) dX9_saveSnapshot_7 (fun S2 H locs hf h => ?_)
  refine lv_iconst (v := 0) E.1 E.2.1 dX9_saveSnapshot_10 (by decide) ?_
  refine lv_istore_n (lv' := [(1, .int 0), (0, .ref (ad 0))]) E.1 E.2.1 dX9_saveSnapshot_11 rfl hl (by decide) rfl (fun ls hl => ?_)
  refine w_X9_saveSnapshot_L12 E ?_ _ _ _ _ _ _ hf h (lv_sub hl [1, 0] rfl)
  intro v7 S8 H locs ls hf h hl
  refine lv_aload_n E.1 E.2.1 dX9_saveSnapshot_37 rfl (lv_at hl 0 rfl) ?_
  refine x_getr E h 0 0 1 rfl rfl rfl (by decide) xinX9 kw1610 dX9_saveSnapshot_38 ?_
  refine lv_iconst (v := 3) E.1 E.2.1 dX9_saveSnapshot_41 (by decide) ?_
  refine x_iald E h 1 hf rfl dX9_saveSnapshot_42 (fun v9 hf => ?_)
  exact x_iret E h hf dX9_saveSnapshot_43
set_option maxHeartbeats 4000000 in
set_option maxRecDepth 100000 in
theorem w_X9_restoreSnapshot_L23 {p : Program} {l : Launch} {e : Env} {s : State} {m : MethodId} {args : Array Value} {below : List Frame} {meth : Method} {c : Code} {D : va_G} {cy : Nat → ClassId} {s00 : State} {ad : Nat → Nat} {A : Nat → Prop}  {r9 : Int32} {S9 : XS}  {K : Int32 → XS → Option (Int32 × XS)} (E : XE p s m args meth c cX9_restoreSnapshot 2 RX9 (some .int) D cy s00) (hk : ∀ (m1 : Int32) (S1 : XS) (H : Heap) (locs : List Loc) (ls : Array Slot), K m1 S1 = some (r9, S9) → XH D cy s00 shMod ad S1 A s H locs → lv_has ls 2 [(0, .ref (ad 0)), (1, .int m1)] → W p l e (xrm 1) s m args below meth c H locs 0 0 (MQ below (xqi D cy shMod ad r9 S9 A) args s 0 0 A) (F0 m 48 ls [])) :
    ∀ (n : Nat) (m1 : Int32) (S : XS) (H : Heap) (locs : List Loc) (ls : Array Slot), f_X9_restoreSnapshot_L23 K n m1 S = some (r9, S9) → XH D cy s00 shMod ad S A s H locs → lv_has ls 2 [(0, .ref (ad 0)), (1, .int m1)] → W p l e (xrm 1) s m args below meth c H locs 0 0 (MQ below (xqi D cy shMod ad r9 S9 A) args s 0 0 A) (F0 m 23 ls []) := by
  intro n
  induction n with
  | zero => intro m1 S H locs ls hf; cases hf
  | succ n ih =>
    intro m1 S H locs ls hf h hl
    rw [f_X9_restoreSnapshot_L23] at hf
    refine lv_iload_n E.1 E.2.1 dX9_restoreSnapshot_23 rfl (lv_at hl 1 rfl) ?_
    refine lv_sipush (v := 186) E.1 E.2.1 dX9_restoreSnapshot_24 (by decide) ?_
    refine x_br hf (lv_icmp_ge (tgt := 48) E.1 E.2.1 dX9_restoreSnapshot_27 (by decide)) (fun hf => ?_) (fun hf => ?_)
    · exact hk _ _ _ _ _ hf h (lv_sub hl [0, 1] rfl)
    · refine lv_aload_n E.1 E.2.1 dX9_restoreSnapshot_30 rfl (lv_at hl 0 rfl) ?_
      refine x_getr E h 0 0 1 rfl rfl rfl (by decide) xinX9 kw1610 dX9_restoreSnapshot_31 ?_
      refine lv_iload_n E.1 E.2.1 dX9_restoreSnapshot_34 rfl (lv_at hl 1 rfl) ?_
      refine lv_aload_n E.1 E.2.1 dX9_restoreSnapshot_35 rfl (lv_at hl 0 rfl) ?_
      refine x_getr E h 0 4 5 rfl rfl rfl (by decide) xinX9 kw1614 dX9_restoreSnapshot_36 ?_
      refine lv_iload_n E.1 E.2.1 dX9_restoreSnapshot_39 rfl (lv_at hl 1 rfl) ?_
      refine x_iald E h 5 hf rfl dX9_restoreSnapshot_40 (fun v3 hf => ?_)
      refine x_iast E h 1 hf rfl dX9_restoreSnapshot_41 (fun S4 H locs hf h => ?_)
      refine x_nv hf (fun v6 e9 hf => ?_)
      refine lv_iinc (v := v6) (lv' := [(1, .int v6), (0, .ref (ad 0))]) E.1 E.2.1 dX9_restoreSnapshot_42 hl (k := 1) rfl (by rw [e9]; rfl) (by decide) rfl (fun ls hl => ?_)
      refine lv_goto (tgt := 23) E.1 E.2.1 dX9_restoreSnapshot_45 (by decide) ?_
      exact ih _ _ _ _ _ hf h (lv_sub hl [1, 0] rfl)
set_option maxHeartbeats 4000000 in
set_option maxRecDepth 100000 in
theorem c_X9_restoreSnapshot (l : Launch) (D : va_G) (cy : Nat → ClassId) (s00 : State) (ad : Nat → Nat) (S : XS) (r9 : Int32) (S9 : XS) (hf : f_X9_restoreSnapshot S = some (r9, S9)) : XI l yX9_restoreSnapshot cX9_restoreSnapshot 2 (some .int) 1 D cy s00 shMod ad S [.ref (ad 0)] r9 S9 := by
  refine XI.of (by decide) [(0, .ref (ad 0))] rfl (Nat.le_of_ble_eq_true rfl) (fun p e s m args below meth c A ls E h hl => ?_)
  unfold f_X9_restoreSnapshot at hf
  refine lv_aload_n E.1 E.2.1 dX9_restoreSnapshot_0 rfl (lv_at hl 0 rfl) ?_
  refine lv_aload_n E.1 E.2.1 dX9_restoreSnapshot_1 rfl (lv_at hl 0 rfl) ?_
  refine x_get E h 0 6 rfl rfl rfl (by decide) xinX9 kw1616 dX9_restoreSnapshot_2 ?_
  refine x_brn hf (lv_if_ne (tgt := 12) E.1 E.2.1 dX9_restoreSnapshot_5 (by decide)) (fun hf => ?_) (fun hf => ?_)
  · refine lv_iconst (v := 0) E.1 E.2.1 dX9_restoreSnapshot_12 (by decide) ?_
    refine x_calli E h hl 0 hf (fun r0 Sq0 hr => c_X9_throwsOne l D cy s00 _ S 0 r0 Sq0 hr) m_X9_throwsOne rfl rfl kw1697 rfl rfl (Nat.le_of_ble_eq_true rfl) ⟨by decide, by decide⟩ ⟨Nat.zero_le _, Nat.zero_le _⟩ dX9_restoreSnapshot_13 (fun v1 S2 H locs hf h => ?_)
    refine x_br hf (lv_if_eq (tgt := 21) E.1 E.2.1 dX9_restoreSnapshot_16 (by decide)) (fun hf => ?_) (fun hf => ?_)
    · refine lv_iconst (v := 0) E.1 E.2.1 dX9_restoreSnapshot_21 (by decide) ?_
      refine lv_istore_n (lv' := [(1, .int 0), (0, .ref (ad 0))]) E.1 E.2.1 dX9_restoreSnapshot_22 rfl hl (by decide) rfl (fun ls hl => ?_)
      refine w_X9_restoreSnapshot_L23 E ?_ _ _ _ _ _ _ hf h (lv_sub hl [1, 0] rfl)
      intro v7 S8 H locs ls hf h hl
      refine lv_aload_n E.1 E.2.1 dX9_restoreSnapshot_48 rfl (lv_at hl 0 rfl) ?_
      refine lv_iconst (v := 0) E.1 E.2.1 dX9_restoreSnapshot_49 (by decide) ?_
      refine x_put (ty := .int) E h 0 5 hf rfl rfl rfl (by decide) xinX9 tyX9_ok nmX9 kw1615 rfl (by decide +kernel) rfl rfl dX9_restoreSnapshot_50 (fun S9 H locs hf h => ?_)
      refine lv_aload_n E.1 E.2.1 dX9_restoreSnapshot_53 rfl (lv_at hl 0 rfl) ?_
      refine x_getr E h 0 0 1 rfl rfl rfl (by decide) xinX9 kw1610 dX9_restoreSnapshot_54 ?_
      refine lv_iconst (v := 3) E.1 E.2.1 dX9_restoreSnapshot_57 (by decide) ?_
      refine x_iald E h 1 hf rfl dX9_restoreSnapshot_58 (fun v10 hf => ?_)
      exact x_iret E h hf dX9_restoreSnapshot_59
    · refine lv_iconst (v := 0) E.1 E.2.1 dX9_restoreSnapshot_19 (by decide) ?_
      exact x_iret E h hf dX9_restoreSnapshot_20
  · refine lv_iconst (v := 1) E.1 E.2.1 dX9_restoreSnapshot_8 (by decide) ?_
    refine lv_goto (tgt := 13) E.1 E.2.1 dX9_restoreSnapshot_9 (by decide) ?_
    refine x_calli E h hl 0 hf (fun r0 Sq0 hr => c_X9_throwsOne l D cy s00 _ S 1 r0 Sq0 hr) m_X9_throwsOne rfl rfl kw1697 rfl rfl (Nat.le_of_ble_eq_true rfl) ⟨by decide, by decide⟩ ⟨Nat.zero_le _, Nat.zero_le _⟩ dX9_restoreSnapshot_13 (fun v11 S12 H locs hf h => ?_)
    refine x_br hf (lv_if_eq (tgt := 21) E.1 E.2.1 dX9_restoreSnapshot_16 (by decide)) (fun hf => ?_) (fun hf => ?_)
    · refine lv_iconst (v := 0) E.1 E.2.1 dX9_restoreSnapshot_21 (by decide) ?_
      refine lv_istore_n (lv' := [(1, .int 0), (0, .ref (ad 0))]) E.1 E.2.1 dX9_restoreSnapshot_22 rfl hl (by decide) rfl (fun ls hl => ?_)
      refine w_X9_restoreSnapshot_L23 E ?_ _ _ _ _ _ _ hf h (lv_sub hl [1, 0] rfl)
      intro v13 S14 H locs ls hf h hl
      refine lv_aload_n E.1 E.2.1 dX9_restoreSnapshot_48 rfl (lv_at hl 0 rfl) ?_
      refine lv_iconst (v := 0) E.1 E.2.1 dX9_restoreSnapshot_49 (by decide) ?_
      refine x_put (ty := .int) E h 0 5 hf rfl rfl rfl (by decide) xinX9 tyX9_ok nmX9 kw1615 rfl (by decide +kernel) rfl rfl dX9_restoreSnapshot_50 (fun S15 H locs hf h => ?_)
      refine lv_aload_n E.1 E.2.1 dX9_restoreSnapshot_53 rfl (lv_at hl 0 rfl) ?_
      refine x_getr E h 0 0 1 rfl rfl rfl (by decide) xinX9 kw1610 dX9_restoreSnapshot_54 ?_
      refine lv_iconst (v := 3) E.1 E.2.1 dX9_restoreSnapshot_57 (by decide) ?_
      refine x_iald E h 1 hf rfl dX9_restoreSnapshot_58 (fun v16 hf => ?_)
      exact x_iret E h hf dX9_restoreSnapshot_59
    · refine lv_iconst (v := 0) E.1 E.2.1 dX9_restoreSnapshot_19 (by decide) ?_
      exact x_iret E h hf dX9_restoreSnapshot_20
set_option maxHeartbeats 4000000 in
set_option maxRecDepth 100000 in
theorem c_X9_scriptErrorKind (l : Launch) (D : va_G) (cy : Nat → ClassId) (s00 : State) (ad : Nat → Nat) (S : XS) (r9 : Int32) (S9 : XS) (hf : f_X9_scriptErrorKind S = some (r9, S9)) : XI l yX9_scriptErrorKind cX9_scriptErrorKind 1 (some .int) 0 D cy s00 shMod ad S [.ref (ad 0)] r9 S9 := by
  refine XI.of (by decide) [(0, .ref (ad 0))] rfl (Nat.le_of_ble_eq_true rfl) (fun p e s m args below meth c A ls E h hl => ?_)
  unfold f_X9_scriptErrorKind at hf
  refine lv_aload_n E.1 E.2.1 dX9_scriptErrorKind_0 rfl (lv_at hl 0 rfl) ?_
  refine lv_iconst (v := 0) E.1 E.2.1 dX9_scriptErrorKind_1 (by decide) ?_
  refine x_put (ty := .int) E h 0 16 hf rfl rfl rfl (by decide) xinX9 tyX9_ok nmX9 kw1626 rfl (by decide +kernel) rfl rfl dX9_scriptErrorKind_2 (fun S1 H locs hf h => ?_)
  refine lv_aload_n E.1 E.2.1 dX9_scriptErrorKind_5 rfl (lv_at hl 0 rfl) ?_
  refine x_get E h 0 12 rfl rfl rfl (by decide) xinX9 kw1622 dX9_scriptErrorKind_6 ?_
  exact x_iret E h hf dX9_scriptErrorKind_9
set_option maxHeartbeats 4000000 in
set_option maxRecDepth 100000 in
theorem c_X9_scriptErrorOffset (l : Launch) (D : va_G) (cy : Nat → ClassId) (s00 : State) (ad : Nat → Nat) (S : XS) (r9 : Int32) (S9 : XS) (hf : f_X9_scriptErrorOffset S = some (r9, S9)) : XI l yX9_scriptErrorOffset cX9_scriptErrorOffset 1 (some .int) 0 D cy s00 shMod ad S [.ref (ad 0)] r9 S9 := by
  refine XI.of (by decide) [(0, .ref (ad 0))] rfl (Nat.le_of_ble_eq_true rfl) (fun p e s m args below meth c A ls E h hl => ?_)
  unfold f_X9_scriptErrorOffset at hf
  refine lv_aload_n E.1 E.2.1 dX9_scriptErrorOffset_0 rfl (lv_at hl 0 rfl) ?_
  refine lv_iconst (v := 0) E.1 E.2.1 dX9_scriptErrorOffset_1 (by decide) ?_
  refine x_put (ty := .int) E h 0 16 hf rfl rfl rfl (by decide) xinX9 tyX9_ok nmX9 kw1626 rfl (by decide +kernel) rfl rfl dX9_scriptErrorOffset_2 (fun S1 H locs hf h => ?_)
  refine lv_aload_n E.1 E.2.1 dX9_scriptErrorOffset_5 rfl (lv_at hl 0 rfl) ?_
  refine x_get E h 0 13 rfl rfl rfl (by decide) xinX9 kw1623 dX9_scriptErrorOffset_6 ?_
  exact x_iret E h hf dX9_scriptErrorOffset_9
set_option maxHeartbeats 4000000 in
set_option maxRecDepth 100000 in
theorem c_X9_told (l : Launch) (D : va_G) (cy : Nat → ClassId) (s00 : State) (ad : Nat → Nat) (S : XS) (p0 : Int32) (r9 : Int32) (S9 : XS) (hf : f_X9_told S p0 = some (r9, S9)) : XI l yX9_told cX9_told 2 (some .int) 0 D cy s00 shMod ad S [.ref (ad 0), .int p0] r9 S9 := by
  refine XI.of (by decide) [(0, .ref (ad 0)), (1, .int p0)] rfl (Nat.le_of_ble_eq_true rfl) (fun p e s m args below meth c A ls E h hl => ?_)
  unfold f_X9_told at hf
  refine lv_aload_n E.1 E.2.1 dX9_told_0 rfl (lv_at hl 0 rfl) ?_
  refine lv_iconst (v := 0) E.1 E.2.1 dX9_told_1 (by decide) ?_
  refine x_put (ty := .int) E h 0 16 hf rfl rfl rfl (by decide) xinX9 tyX9_ok nmX9 kw1626 rfl (by decide +kernel) rfl rfl dX9_told_2 (fun S1 H locs hf h => ?_)
  refine lv_aload_n E.1 E.2.1 dX9_told_5 rfl (lv_at hl 0 rfl) ?_
  refine x_getr E h 0 0 1 rfl rfl rfl (by decide) xinX9 kw1610 dX9_told_6 ?_
  refine lv_iload_n E.1 E.2.1 dX9_told_9 rfl (lv_at hl 1 rfl) ?_
  refine x_iald E h 1 hf rfl dX9_told_10 (fun v2 hf => ?_)
  exact x_iret E h hf dX9_told_11
set_option maxHeartbeats 4000000 in
set_option maxRecDepth 100000 in
theorem c_X9_chimneyCount (l : Launch) (D : va_G) (cy : Nat → ClassId) (s00 : State) (ad : Nat → Nat) (S : XS) (r9 : Int32) (S9 : XS) (hf : f_X9_chimneyCount S = some (r9, S9)) : XI l yX9_chimneyCount cX9_chimneyCount 1 (some .int) 1 D cy s00 shMod ad S [.ref (ad 0)] r9 S9 := by
  refine XI.of (by decide) [(0, .ref (ad 0))] rfl (Nat.le_of_ble_eq_true rfl) (fun p e s m args below meth c A ls E h hl => ?_)
  unfold f_X9_chimneyCount at hf
  refine lv_aload_n E.1 E.2.1 dX9_chimneyCount_0 rfl (lv_at hl 0 rfl) ?_
  refine lv_iconst (v := 0) E.1 E.2.1 dX9_chimneyCount_1 (by decide) ?_
  refine x_calli E h hl 0 hf (fun r0 Sq0 hr => c_X9_told l D cy s00 _ S 0 r0 Sq0 hr) m_X9_told rfl rfl kw1812 rfl rfl (Nat.le_of_ble_eq_true rfl) ⟨by decide, by decide⟩ ⟨Nat.zero_le _, Nat.zero_le _⟩ dX9_chimneyCount_2 (fun v1 S2 H locs hf h => ?_)
  exact x_iret E h hf dX9_chimneyCount_5
set_option maxHeartbeats 4000000 in
set_option maxRecDepth 100000 in
theorem c_X9_gutterCount (l : Launch) (D : va_G) (cy : Nat → ClassId) (s00 : State) (ad : Nat → Nat) (S : XS) (r9 : Int32) (S9 : XS) (hf : f_X9_gutterCount S = some (r9, S9)) : XI l yX9_gutterCount cX9_gutterCount 1 (some .int) 1 D cy s00 shMod ad S [.ref (ad 0)] r9 S9 := by
  refine XI.of (by decide) [(0, .ref (ad 0))] rfl (Nat.le_of_ble_eq_true rfl) (fun p e s m args below meth c A ls E h hl => ?_)
  unfold f_X9_gutterCount at hf
  refine lv_aload_n E.1 E.2.1 dX9_gutterCount_0 rfl (lv_at hl 0 rfl) ?_
  refine lv_iconst (v := 1) E.1 E.2.1 dX9_gutterCount_1 (by decide) ?_
  refine x_calli E h hl 0 hf (fun r0 Sq0 hr => c_X9_told l D cy s00 _ S 1 r0 Sq0 hr) m_X9_told rfl rfl kw1812 rfl rfl (Nat.le_of_ble_eq_true rfl) ⟨by decide, by decide⟩ ⟨Nat.zero_le _, Nat.zero_le _⟩ dX9_gutterCount_2 (fun v1 S2 H locs hf h => ?_)
  exact x_iret E h hf dX9_gutterCount_5
set_option maxHeartbeats 4000000 in
set_option maxRecDepth 100000 in
theorem c_X9_catCount (l : Launch) (D : va_G) (cy : Nat → ClassId) (s00 : State) (ad : Nat → Nat) (S : XS) (r9 : Int32) (S9 : XS) (hf : f_X9_catCount S = some (r9, S9)) : XI l yX9_catCount cX9_catCount 1 (some .int) 1 D cy s00 shMod ad S [.ref (ad 0)] r9 S9 := by
  refine XI.of (by decide) [(0, .ref (ad 0))] rfl (Nat.le_of_ble_eq_true rfl) (fun p e s m args below meth c A ls E h hl => ?_)
  unfold f_X9_catCount at hf
  refine lv_aload_n E.1 E.2.1 dX9_catCount_0 rfl (lv_at hl 0 rfl) ?_
  refine lv_iconst (v := 2) E.1 E.2.1 dX9_catCount_1 (by decide) ?_
  refine x_calli E h hl 0 hf (fun r0 Sq0 hr => c_X9_told l D cy s00 _ S 2 r0 Sq0 hr) m_X9_told rfl rfl kw1812 rfl rfl (Nat.le_of_ble_eq_true rfl) ⟨by decide, by decide⟩ ⟨Nat.zero_le _, Nat.zero_le _⟩ dX9_catCount_2 (fun v1 S2 H locs hf h => ?_)
  exact x_iret E h hf dX9_catCount_5
set_option maxHeartbeats 4000000 in
set_option maxRecDepth 100000 in
theorem c_X9_night (l : Launch) (D : va_G) (cy : Nat → ClassId) (s00 : State) (ad : Nat → Nat) (S : XS) (r9 : Int32) (S9 : XS) (hf : f_X9_night S = some (r9, S9)) : XI l yX9_night cX9_night 1 (some .int) 1 D cy s00 shMod ad S [.ref (ad 0)] r9 S9 := by
  refine XI.of (by decide) [(0, .ref (ad 0))] rfl (Nat.le_of_ble_eq_true rfl) (fun p e s m args below meth c A ls E h hl => ?_)
  unfold f_X9_night at hf
  refine lv_aload_n E.1 E.2.1 dX9_night_0 rfl (lv_at hl 0 rfl) ?_
  refine lv_iconst (v := 3) E.1 E.2.1 dX9_night_1 (by decide) ?_
  refine x_calli E h hl 0 hf (fun r0 Sq0 hr => c_X9_told l D cy s00 _ S 3 r0 Sq0 hr) m_X9_told rfl rfl kw1812 rfl rfl (Nat.le_of_ble_eq_true rfl) ⟨by decide, by decide⟩ ⟨Nat.zero_le _, Nat.zero_le _⟩ dX9_night_2 (fun v1 S2 H locs hf h => ?_)
  exact x_iret E h hf dX9_night_5
set_option maxHeartbeats 4000000 in
set_option maxRecDepth 100000 in
theorem c_X9_moonPhase (l : Launch) (D : va_G) (cy : Nat → ClassId) (s00 : State) (ad : Nat → Nat) (S : XS) (r9 : Int32) (S9 : XS) (hf : f_X9_moonPhase S = some (r9, S9)) : XI l yX9_moonPhase cX9_moonPhase 1 (some .int) 1 D cy s00 shMod ad S [.ref (ad 0)] r9 S9 := by
  refine XI.of (by decide) [(0, .ref (ad 0))] rfl (Nat.le_of_ble_eq_true rfl) (fun p e s m args below meth c A ls E h hl => ?_)
  unfold f_X9_moonPhase at hf
  refine lv_aload_n E.1 E.2.1 dX9_moonPhase_0 rfl (lv_at hl 0 rfl) ?_
  refine lv_iconst (v := 3) E.1 E.2.1 dX9_moonPhase_1 (by decide) ?_
  refine x_calli E h hl 0 hf (fun r0 Sq0 hr => c_X9_told l D cy s00 _ S 3 r0 Sq0 hr) m_X9_told rfl rfl kw1812 rfl rfl (Nat.le_of_ble_eq_true rfl) ⟨by decide, by decide⟩ ⟨Nat.zero_le _, Nat.zero_le _⟩ dX9_moonPhase_2 (fun v1 S2 H locs hf h => ?_)
  refine lv_bipush (v := 8) E.1 E.2.1 dX9_moonPhase_5 (by decide) ?_
  refine lv_irem E.1 E.2.1 dX9_moonPhase_7 (by decide) ?_
  exact x_iret E h hf dX9_moonPhase_8
set_option maxHeartbeats 4000000 in
set_option maxRecDepth 100000 in
theorem c_X9_warmth (l : Launch) (D : va_G) (cy : Nat → ClassId) (s00 : State) (ad : Nat → Nat) (S : XS) (p0 : Int32) (r9 : Int32) (S9 : XS) (hf : f_X9_warmth S p0 = some (r9, S9)) : XI l yX9_warmth cX9_warmth 2 (some .int) 2 D cy s00 shMod ad S [.ref (ad 0), .int p0] r9 S9 := by
  refine XI.of (by decide) [(0, .ref (ad 0)), (1, .int p0)] rfl (Nat.le_of_ble_eq_true rfl) (fun p e s m args below meth c A ls E h hl => ?_)
  unfold f_X9_warmth at hf
  refine lv_aload_n E.1 E.2.1 dX9_warmth_0 rfl (lv_at hl 0 rfl) ?_
  refine lv_aload_n E.1 E.2.1 dX9_warmth_1 rfl (lv_at hl 0 rfl) ?_
  refine lv_iload_n E.1 E.2.1 dX9_warmth_2 rfl (lv_at hl 1 rfl) ?_
  refine x_callp E h hl 0 hf (fun r0 hr => c_X9_isChimney l D cy s00 _ S p0 r0 hr) m_X9_isChimney rfl rfl kw1725 rfl rfl (Nat.le_of_ble_eq_true rfl) ⟨by decide, by decide⟩ ⟨Nat.zero_le _, Nat.zero_le _⟩ dX9_warmth_3 (fun v1 H locs hf h => ?_)
  refine x_brn hf (lv_if_ne (tgt := 13) E.1 E.2.1 dX9_warmth_6 (by decide)) (fun hf => ?_) (fun hf => ?_)
  · refine lv_iconst (v := 0) E.1 E.2.1 dX9_warmth_13 (by decide) ?_
    refine x_calli E h hl 0 hf (fun r0 Sq0 hr => c_X9_throwsOne l D cy s00 _ S 0 r0 Sq0 hr) m_X9_throwsOne rfl rfl kw1697 rfl rfl (Nat.le_of_ble_eq_true rfl) ⟨by decide, by decide⟩ ⟨Nat.zero_le _, Nat.zero_le _⟩ dX9_warmth_14 (fun v2 S3 H locs hf h => ?_)
    refine x_br hf (lv_if_eq (tgt := 24) E.1 E.2.1 dX9_warmth_17 (by decide)) (fun hf => ?_) (fun hf => ?_)
    · refine lv_aload_n E.1 E.2.1 dX9_warmth_24 rfl (lv_at hl 0 rfl) ?_
      refine x_getr E h 0 0 1 rfl rfl rfl (by decide) xinX9 kw1610 dX9_warmth_25 ?_
      refine lv_bipush (v := 10) E.1 E.2.1 dX9_warmth_28 (by decide) ?_
      refine lv_iload_n E.1 E.2.1 dX9_warmth_30 rfl (lv_at hl 1 rfl) ?_
      refine lv_iadd E.1 E.2.1 dX9_warmth_31 ?_
      refine x_iald E h 1 hf rfl dX9_warmth_32 (fun v4 hf => ?_)
      exact x_iret E h hf dX9_warmth_33
    · refine lv_iconst (v := 0) E.1 E.2.1 dX9_warmth_20 (by decide) ?_
      refine lv_goto (tgt := 33) E.1 E.2.1 dX9_warmth_21 (by decide) ?_
      exact x_iret E h hf dX9_warmth_33
  · refine lv_iconst (v := 1) E.1 E.2.1 dX9_warmth_9 (by decide) ?_
    refine lv_goto (tgt := 14) E.1 E.2.1 dX9_warmth_10 (by decide) ?_
    refine x_calli E h hl 0 hf (fun r0 Sq0 hr => c_X9_throwsOne l D cy s00 _ S 1 r0 Sq0 hr) m_X9_throwsOne rfl rfl kw1697 rfl rfl (Nat.le_of_ble_eq_true rfl) ⟨by decide, by decide⟩ ⟨Nat.zero_le _, Nat.zero_le _⟩ dX9_warmth_14 (fun v5 S6 H locs hf h => ?_)
    refine x_br hf (lv_if_eq (tgt := 24) E.1 E.2.1 dX9_warmth_17 (by decide)) (fun hf => ?_) (fun hf => ?_)
    · refine lv_aload_n E.1 E.2.1 dX9_warmth_24 rfl (lv_at hl 0 rfl) ?_
      refine x_getr E h 0 0 1 rfl rfl rfl (by decide) xinX9 kw1610 dX9_warmth_25 ?_
      refine lv_bipush (v := 10) E.1 E.2.1 dX9_warmth_28 (by decide) ?_
      refine lv_iload_n E.1 E.2.1 dX9_warmth_30 rfl (lv_at hl 1 rfl) ?_
      refine lv_iadd E.1 E.2.1 dX9_warmth_31 ?_
      refine x_iald E h 1 hf rfl dX9_warmth_32 (fun v7 hf => ?_)
      exact x_iret E h hf dX9_warmth_33
    · refine lv_iconst (v := 0) E.1 E.2.1 dX9_warmth_20 (by decide) ?_
      refine lv_goto (tgt := 33) E.1 E.2.1 dX9_warmth_21 (by decide) ?_
      exact x_iret E h hf dX9_warmth_33
set_option maxHeartbeats 4000000 in
set_option maxRecDepth 100000 in
theorem c_X9_ownerOf (l : Launch) (D : va_G) (cy : Nat → ClassId) (s00 : State) (ad : Nat → Nat) (S : XS) (p0 : Int32) (r9 : Int32) (S9 : XS) (hf : f_X9_ownerOf S p0 = some (r9, S9)) : XI l yX9_ownerOf cX9_ownerOf 2 (some .int) 2 D cy s00 shMod ad S [.ref (ad 0), .int p0] r9 S9 := by
  refine XI.of (by decide) [(0, .ref (ad 0)), (1, .int p0)] rfl (Nat.le_of_ble_eq_true rfl) (fun p e s m args below meth c A ls E h hl => ?_)
  unfold f_X9_ownerOf at hf
  refine lv_aload_n E.1 E.2.1 dX9_ownerOf_0 rfl (lv_at hl 0 rfl) ?_
  refine lv_aload_n E.1 E.2.1 dX9_ownerOf_1 rfl (lv_at hl 0 rfl) ?_
  refine lv_iload_n E.1 E.2.1 dX9_ownerOf_2 rfl (lv_at hl 1 rfl) ?_
  refine x_callp E h hl 0 hf (fun r0 hr => c_X9_isChimney l D cy s00 _ S p0 r0 hr) m_X9_isChimney rfl rfl kw1725 rfl rfl (Nat.le_of_ble_eq_true rfl) ⟨by decide, by decide⟩ ⟨Nat.zero_le _, Nat.zero_le _⟩ dX9_ownerOf_3 (fun v1 H locs hf h => ?_)
  refine x_brn hf (lv_if_ne (tgt := 13) E.1 E.2.1 dX9_ownerOf_6 (by decide)) (fun hf => ?_) (fun hf => ?_)
  · refine lv_iconst (v := 0) E.1 E.2.1 dX9_ownerOf_13 (by decide) ?_
    refine x_calli E h hl 0 hf (fun r0 Sq0 hr => c_X9_throwsOne l D cy s00 _ S 0 r0 Sq0 hr) m_X9_throwsOne rfl rfl kw1697 rfl rfl (Nat.le_of_ble_eq_true rfl) ⟨by decide, by decide⟩ ⟨Nat.zero_le _, Nat.zero_le _⟩ dX9_ownerOf_14 (fun v2 S3 H locs hf h => ?_)
    refine x_br hf (lv_if_eq (tgt := 24) E.1 E.2.1 dX9_ownerOf_17 (by decide)) (fun hf => ?_) (fun hf => ?_)
    · refine lv_aload_n E.1 E.2.1 dX9_ownerOf_24 rfl (lv_at hl 0 rfl) ?_
      refine lv_iload_n E.1 E.2.1 dX9_ownerOf_25 rfl (lv_at hl 1 rfl) ?_
      refine x_callp E h hl 0 hf (fun r0 hr => c_X9_owner l D cy s00 _ S3 p0 r0 hr) m_X9_owner rfl rfl kw1465 rfl rfl (Nat.le_of_ble_eq_true rfl) ⟨by decide, by decide⟩ ⟨Nat.zero_le _, Nat.zero_le _⟩ dX9_ownerOf_26 (fun v4 H locs hf h => ?_)
      exact x_iret E h hf dX9_ownerOf_29
    · refine lv_iconst (v := 0) E.1 E.2.1 dX9_ownerOf_20 (by decide) ?_
      refine lv_goto (tgt := 29) E.1 E.2.1 dX9_ownerOf_21 (by decide) ?_
      exact x_iret E h hf dX9_ownerOf_29
  · refine lv_iconst (v := 1) E.1 E.2.1 dX9_ownerOf_9 (by decide) ?_
    refine lv_goto (tgt := 14) E.1 E.2.1 dX9_ownerOf_10 (by decide) ?_
    refine x_calli E h hl 0 hf (fun r0 Sq0 hr => c_X9_throwsOne l D cy s00 _ S 1 r0 Sq0 hr) m_X9_throwsOne rfl rfl kw1697 rfl rfl (Nat.le_of_ble_eq_true rfl) ⟨by decide, by decide⟩ ⟨Nat.zero_le _, Nat.zero_le _⟩ dX9_ownerOf_14 (fun v5 S6 H locs hf h => ?_)
    refine x_br hf (lv_if_eq (tgt := 24) E.1 E.2.1 dX9_ownerOf_17 (by decide)) (fun hf => ?_) (fun hf => ?_)
    · refine lv_aload_n E.1 E.2.1 dX9_ownerOf_24 rfl (lv_at hl 0 rfl) ?_
      refine lv_iload_n E.1 E.2.1 dX9_ownerOf_25 rfl (lv_at hl 1 rfl) ?_
      refine x_callp E h hl 0 hf (fun r0 hr => c_X9_owner l D cy s00 _ S6 p0 r0 hr) m_X9_owner rfl rfl kw1465 rfl rfl (Nat.le_of_ble_eq_true rfl) ⟨by decide, by decide⟩ ⟨Nat.zero_le _, Nat.zero_le _⟩ dX9_ownerOf_26 (fun v7 H locs hf h => ?_)
      exact x_iret E h hf dX9_ownerOf_29
    · refine lv_iconst (v := 0) E.1 E.2.1 dX9_ownerOf_20 (by decide) ?_
      refine lv_goto (tgt := 29) E.1 E.2.1 dX9_ownerOf_21 (by decide) ?_
      exact x_iret E h hf dX9_ownerOf_29
set_option maxHeartbeats 4000000 in
set_option maxRecDepth 100000 in
theorem c_X9_catOn (l : Launch) (D : va_G) (cy : Nat → ClassId) (s00 : State) (ad : Nat → Nat) (S : XS) (p0 : Int32) (r9 : Int32) (S9 : XS) (hf : f_X9_catOn S p0 = some (r9, S9)) : XI l yX9_catOn cX9_catOn 2 (some .int) 2 D cy s00 shMod ad S [.ref (ad 0), .int p0] r9 S9 := by
  refine XI.of (by decide) [(0, .ref (ad 0)), (1, .int p0)] rfl (Nat.le_of_ble_eq_true rfl) (fun p e s m args below meth c A ls E h hl => ?_)
  unfold f_X9_catOn at hf
  refine lv_aload_n E.1 E.2.1 dX9_catOn_0 rfl (lv_at hl 0 rfl) ?_
  refine lv_aload_n E.1 E.2.1 dX9_catOn_1 rfl (lv_at hl 0 rfl) ?_
  refine lv_iload_n E.1 E.2.1 dX9_catOn_2 rfl (lv_at hl 1 rfl) ?_
  refine x_callp E h hl 0 hf (fun r0 hr => c_X9_isChimney l D cy s00 _ S p0 r0 hr) m_X9_isChimney rfl rfl kw1725 rfl rfl (Nat.le_of_ble_eq_true rfl) ⟨by decide, by decide⟩ ⟨Nat.zero_le _, Nat.zero_le _⟩ dX9_catOn_3 (fun v1 H locs hf h => ?_)
  refine x_brn hf (lv_if_ne (tgt := 13) E.1 E.2.1 dX9_catOn_6 (by decide)) (fun hf => ?_) (fun hf => ?_)
  · refine lv_iconst (v := 0) E.1 E.2.1 dX9_catOn_13 (by decide) ?_
    refine x_calli E h hl 0 hf (fun r0 Sq0 hr => c_X9_throwsOne l D cy s00 _ S 0 r0 Sq0 hr) m_X9_throwsOne rfl rfl kw1697 rfl rfl (Nat.le_of_ble_eq_true rfl) ⟨by decide, by decide⟩ ⟨Nat.zero_le _, Nat.zero_le _⟩ dX9_catOn_14 (fun v2 S3 H locs hf h => ?_)
    refine x_br hf (lv_if_eq (tgt := 24) E.1 E.2.1 dX9_catOn_17 (by decide)) (fun hf => ?_) (fun hf => ?_)
    · refine lv_aload_n E.1 E.2.1 dX9_catOn_24 rfl (lv_at hl 0 rfl) ?_
      refine lv_iload_n E.1 E.2.1 dX9_catOn_25 rfl (lv_at hl 1 rfl) ?_
      refine x_callp E h hl 0 hf (fun r0 hr => c_X9_sitter l D cy s00 _ S3 p0 r0 hr) m_X9_sitter rfl rfl kw1425 rfl rfl (Nat.le_of_ble_eq_true rfl) ⟨by decide, by decide⟩ ⟨Nat.zero_le _, Nat.zero_le _⟩ dX9_catOn_26 (fun v4 H locs hf h => ?_)
      exact x_iret E h hf dX9_catOn_29
    · refine lv_iconst (v := 0) E.1 E.2.1 dX9_catOn_20 (by decide) ?_
      refine lv_goto (tgt := 29) E.1 E.2.1 dX9_catOn_21 (by decide) ?_
      exact x_iret E h hf dX9_catOn_29
  · refine lv_iconst (v := 1) E.1 E.2.1 dX9_catOn_9 (by decide) ?_
    refine lv_goto (tgt := 14) E.1 E.2.1 dX9_catOn_10 (by decide) ?_
    refine x_calli E h hl 0 hf (fun r0 Sq0 hr => c_X9_throwsOne l D cy s00 _ S 1 r0 Sq0 hr) m_X9_throwsOne rfl rfl kw1697 rfl rfl (Nat.le_of_ble_eq_true rfl) ⟨by decide, by decide⟩ ⟨Nat.zero_le _, Nat.zero_le _⟩ dX9_catOn_14 (fun v5 S6 H locs hf h => ?_)
    refine x_br hf (lv_if_eq (tgt := 24) E.1 E.2.1 dX9_catOn_17 (by decide)) (fun hf => ?_) (fun hf => ?_)
    · refine lv_aload_n E.1 E.2.1 dX9_catOn_24 rfl (lv_at hl 0 rfl) ?_
      refine lv_iload_n E.1 E.2.1 dX9_catOn_25 rfl (lv_at hl 1 rfl) ?_
      refine x_callp E h hl 0 hf (fun r0 hr => c_X9_sitter l D cy s00 _ S6 p0 r0 hr) m_X9_sitter rfl rfl kw1425 rfl rfl (Nat.le_of_ble_eq_true rfl) ⟨by decide, by decide⟩ ⟨Nat.zero_le _, Nat.zero_le _⟩ dX9_catOn_26 (fun v7 H locs hf h => ?_)
      exact x_iret E h hf dX9_catOn_29
    · refine lv_iconst (v := 0) E.1 E.2.1 dX9_catOn_20 (by decide) ?_
      refine lv_goto (tgt := 29) E.1 E.2.1 dX9_catOn_21 (by decide) ?_
      exact x_iret E h hf dX9_catOn_29
set_option maxHeartbeats 4000000 in
set_option maxRecDepth 100000 in
theorem c_X9_gutterEnds (l : Launch) (D : va_G) (cy : Nat → ClassId) (s00 : State) (ad : Nat → Nat) (S : XS) (p0 : Int32) (r9 : Int32) (S9 : XS) (hf : f_X9_gutterEnds S p0 = some (r9, S9)) : XI l yX9_gutterEnds cX9_gutterEnds 2 (some .int) 2 D cy s00 shMod ad S [.ref (ad 0), .int p0] r9 S9 := by
  refine XI.of (by decide) [(0, .ref (ad 0)), (1, .int p0)] rfl (Nat.le_of_ble_eq_true rfl) (fun p e s m args below meth c A ls E h hl => ?_)
  unfold f_X9_gutterEnds at hf
  refine lv_aload_n E.1 E.2.1 dX9_gutterEnds_0 rfl (lv_at hl 0 rfl) ?_
  refine lv_aload_n E.1 E.2.1 dX9_gutterEnds_1 rfl (lv_at hl 0 rfl) ?_
  refine lv_iload_n E.1 E.2.1 dX9_gutterEnds_2 rfl (lv_at hl 1 rfl) ?_
  refine x_callp E h hl 0 hf (fun r0 hr => c_X9_isGutter l D cy s00 _ S p0 r0 hr) m_X9_isGutter rfl rfl kw1748 rfl rfl (Nat.le_of_ble_eq_true rfl) ⟨by decide, by decide⟩ ⟨Nat.zero_le _, Nat.zero_le _⟩ dX9_gutterEnds_3 (fun v1 H locs hf h => ?_)
  refine x_brn hf (lv_if_ne (tgt := 13) E.1 E.2.1 dX9_gutterEnds_6 (by decide)) (fun hf => ?_) (fun hf => ?_)
  · refine lv_iconst (v := 0) E.1 E.2.1 dX9_gutterEnds_13 (by decide) ?_
    refine x_calli E h hl 0 hf (fun r0 Sq0 hr => c_X9_throwsOne l D cy s00 _ S 0 r0 Sq0 hr) m_X9_throwsOne rfl rfl kw1697 rfl rfl (Nat.le_of_ble_eq_true rfl) ⟨by decide, by decide⟩ ⟨Nat.zero_le _, Nat.zero_le _⟩ dX9_gutterEnds_14 (fun v2 S3 H locs hf h => ?_)
    refine x_br hf (lv_if_eq (tgt := 24) E.1 E.2.1 dX9_gutterEnds_17 (by decide)) (fun hf => ?_) (fun hf => ?_)
    · refine lv_iconst (v := 1) E.1 E.2.1 dX9_gutterEnds_24 (by decide) ?_
      refine lv_aload_n E.1 E.2.1 dX9_gutterEnds_25 rfl (lv_at hl 0 rfl) ?_
      refine lv_iload_n E.1 E.2.1 dX9_gutterEnds_26 rfl (lv_at hl 1 rfl) ?_
      refine lv_iconst (v := 0) E.1 E.2.1 dX9_gutterEnds_27 (by decide) ?_
      refine x_callp E h hl 0 hf (fun r0 hr => c_X9_gutter l D cy s00 _ S3 p0 0 r0 hr) m_X9_gutter rfl rfl kw1457 rfl rfl (Nat.le_of_ble_eq_true rfl) ⟨by decide, by decide⟩ ⟨Nat.zero_le _, Nat.zero_le _⟩ dX9_gutterEnds_28 (fun v4 H locs hf h => ?_)
      refine lv_ishl E.1 E.2.1 dX9_gutterEnds_31 ?_
      refine lv_iconst (v := 1) E.1 E.2.1 dX9_gutterEnds_32 (by decide) ?_
      refine lv_aload_n E.1 E.2.1 dX9_gutterEnds_33 rfl (lv_at hl 0 rfl) ?_
      refine lv_iload_n E.1 E.2.1 dX9_gutterEnds_34 rfl (lv_at hl 1 rfl) ?_
      refine lv_iconst (v := 1) E.1 E.2.1 dX9_gutterEnds_35 (by decide) ?_
      refine x_callp E h hl 0 hf (fun r0 hr => c_X9_gutter l D cy s00 _ S3 p0 1 r0 hr) m_X9_gutter rfl rfl kw1457 rfl rfl (Nat.le_of_ble_eq_true rfl) ⟨by decide, by decide⟩ ⟨Nat.zero_le _, Nat.zero_le _⟩ dX9_gutterEnds_36 (fun v5 H locs hf h => ?_)
      refine lv_ishl E.1 E.2.1 dX9_gutterEnds_39 ?_
      refine lv_ior E.1 E.2.1 dX9_gutterEnds_40 ?_
      exact x_iret E h hf dX9_gutterEnds_41
    · refine lv_iconst (v := 0) E.1 E.2.1 dX9_gutterEnds_20 (by decide) ?_
      refine lv_goto (tgt := 41) E.1 E.2.1 dX9_gutterEnds_21 (by decide) ?_
      exact x_iret E h hf dX9_gutterEnds_41
  · refine lv_iconst (v := 1) E.1 E.2.1 dX9_gutterEnds_9 (by decide) ?_
    refine lv_goto (tgt := 14) E.1 E.2.1 dX9_gutterEnds_10 (by decide) ?_
    refine x_calli E h hl 0 hf (fun r0 Sq0 hr => c_X9_throwsOne l D cy s00 _ S 1 r0 Sq0 hr) m_X9_throwsOne rfl rfl kw1697 rfl rfl (Nat.le_of_ble_eq_true rfl) ⟨by decide, by decide⟩ ⟨Nat.zero_le _, Nat.zero_le _⟩ dX9_gutterEnds_14 (fun v6 S7 H locs hf h => ?_)
    refine x_br hf (lv_if_eq (tgt := 24) E.1 E.2.1 dX9_gutterEnds_17 (by decide)) (fun hf => ?_) (fun hf => ?_)
    · refine lv_iconst (v := 1) E.1 E.2.1 dX9_gutterEnds_24 (by decide) ?_
      refine lv_aload_n E.1 E.2.1 dX9_gutterEnds_25 rfl (lv_at hl 0 rfl) ?_
      refine lv_iload_n E.1 E.2.1 dX9_gutterEnds_26 rfl (lv_at hl 1 rfl) ?_
      refine lv_iconst (v := 0) E.1 E.2.1 dX9_gutterEnds_27 (by decide) ?_
      refine x_callp E h hl 0 hf (fun r0 hr => c_X9_gutter l D cy s00 _ S7 p0 0 r0 hr) m_X9_gutter rfl rfl kw1457 rfl rfl (Nat.le_of_ble_eq_true rfl) ⟨by decide, by decide⟩ ⟨Nat.zero_le _, Nat.zero_le _⟩ dX9_gutterEnds_28 (fun v8 H locs hf h => ?_)
      refine lv_ishl E.1 E.2.1 dX9_gutterEnds_31 ?_
      refine lv_iconst (v := 1) E.1 E.2.1 dX9_gutterEnds_32 (by decide) ?_
      refine lv_aload_n E.1 E.2.1 dX9_gutterEnds_33 rfl (lv_at hl 0 rfl) ?_
      refine lv_iload_n E.1 E.2.1 dX9_gutterEnds_34 rfl (lv_at hl 1 rfl) ?_
      refine lv_iconst (v := 1) E.1 E.2.1 dX9_gutterEnds_35 (by decide) ?_
      refine x_callp E h hl 0 hf (fun r0 hr => c_X9_gutter l D cy s00 _ S7 p0 1 r0 hr) m_X9_gutter rfl rfl kw1457 rfl rfl (Nat.le_of_ble_eq_true rfl) ⟨by decide, by decide⟩ ⟨Nat.zero_le _, Nat.zero_le _⟩ dX9_gutterEnds_36 (fun v9 H locs hf h => ?_)
      refine lv_ishl E.1 E.2.1 dX9_gutterEnds_39 ?_
      refine lv_ior E.1 E.2.1 dX9_gutterEnds_40 ?_
      exact x_iret E h hf dX9_gutterEnds_41
    · refine lv_iconst (v := 0) E.1 E.2.1 dX9_gutterEnds_20 (by decide) ?_
      refine lv_goto (tgt := 41) E.1 E.2.1 dX9_gutterEnds_21 (by decide) ?_
      exact x_iret E h hf dX9_gutterEnds_41
set_option maxHeartbeats 4000000 in
set_option maxRecDepth 100000 in
theorem c_X9_width (l : Launch) (D : va_G) (cy : Nat → ClassId) (s00 : State) (ad : Nat → Nat) (S : XS) (p0 : Int32) (r9 : Int32) (S9 : XS) (hf : f_X9_width S p0 = some (r9, S9)) : XI l yX9_width cX9_width 2 (some .int) 2 D cy s00 shMod ad S [.ref (ad 0), .int p0] r9 S9 := by
  refine XI.of (by decide) [(0, .ref (ad 0)), (1, .int p0)] rfl (Nat.le_of_ble_eq_true rfl) (fun p e s m args below meth c A ls E h hl => ?_)
  unfold f_X9_width at hf
  refine lv_aload_n E.1 E.2.1 dX9_width_0 rfl (lv_at hl 0 rfl) ?_
  refine lv_aload_n E.1 E.2.1 dX9_width_1 rfl (lv_at hl 0 rfl) ?_
  refine lv_iload_n E.1 E.2.1 dX9_width_2 rfl (lv_at hl 1 rfl) ?_
  refine x_callp E h hl 0 hf (fun r0 hr => c_X9_isGutter l D cy s00 _ S p0 r0 hr) m_X9_isGutter rfl rfl kw1748 rfl rfl (Nat.le_of_ble_eq_true rfl) ⟨by decide, by decide⟩ ⟨Nat.zero_le _, Nat.zero_le _⟩ dX9_width_3 (fun v1 H locs hf h => ?_)
  refine x_brn hf (lv_if_ne (tgt := 13) E.1 E.2.1 dX9_width_6 (by decide)) (fun hf => ?_) (fun hf => ?_)
  · refine lv_iconst (v := 0) E.1 E.2.1 dX9_width_13 (by decide) ?_
    refine x_calli E h hl 0 hf (fun r0 Sq0 hr => c_X9_throwsOne l D cy s00 _ S 0 r0 Sq0 hr) m_X9_throwsOne rfl rfl kw1697 rfl rfl (Nat.le_of_ble_eq_true rfl) ⟨by decide, by decide⟩ ⟨Nat.zero_le _, Nat.zero_le _⟩ dX9_width_14 (fun v2 S3 H locs hf h => ?_)
    refine x_br hf (lv_if_eq (tgt := 24) E.1 E.2.1 dX9_width_17 (by decide)) (fun hf => ?_) (fun hf => ?_)
    · refine lv_aload_n E.1 E.2.1 dX9_width_24 rfl (lv_at hl 0 rfl) ?_
      refine lv_iload_n E.1 E.2.1 dX9_width_25 rfl (lv_at hl 1 rfl) ?_
      refine lv_iconst (v := 2) E.1 E.2.1 dX9_width_26 (by decide) ?_
      refine x_callp E h hl 0 hf (fun r0 hr => c_X9_gutter l D cy s00 _ S3 p0 2 r0 hr) m_X9_gutter rfl rfl kw1457 rfl rfl (Nat.le_of_ble_eq_true rfl) ⟨by decide, by decide⟩ ⟨Nat.zero_le _, Nat.zero_le _⟩ dX9_width_27 (fun v4 H locs hf h => ?_)
      exact x_iret E h hf dX9_width_30
    · refine lv_iconst (v := 0) E.1 E.2.1 dX9_width_20 (by decide) ?_
      refine lv_goto (tgt := 30) E.1 E.2.1 dX9_width_21 (by decide) ?_
      exact x_iret E h hf dX9_width_30
  · refine lv_iconst (v := 1) E.1 E.2.1 dX9_width_9 (by decide) ?_
    refine lv_goto (tgt := 14) E.1 E.2.1 dX9_width_10 (by decide) ?_
    refine x_calli E h hl 0 hf (fun r0 Sq0 hr => c_X9_throwsOne l D cy s00 _ S 1 r0 Sq0 hr) m_X9_throwsOne rfl rfl kw1697 rfl rfl (Nat.le_of_ble_eq_true rfl) ⟨by decide, by decide⟩ ⟨Nat.zero_le _, Nat.zero_le _⟩ dX9_width_14 (fun v5 S6 H locs hf h => ?_)
    refine x_br hf (lv_if_eq (tgt := 24) E.1 E.2.1 dX9_width_17 (by decide)) (fun hf => ?_) (fun hf => ?_)
    · refine lv_aload_n E.1 E.2.1 dX9_width_24 rfl (lv_at hl 0 rfl) ?_
      refine lv_iload_n E.1 E.2.1 dX9_width_25 rfl (lv_at hl 1 rfl) ?_
      refine lv_iconst (v := 2) E.1 E.2.1 dX9_width_26 (by decide) ?_
      refine x_callp E h hl 0 hf (fun r0 hr => c_X9_gutter l D cy s00 _ S6 p0 2 r0 hr) m_X9_gutter rfl rfl kw1457 rfl rfl (Nat.le_of_ble_eq_true rfl) ⟨by decide, by decide⟩ ⟨Nat.zero_le _, Nat.zero_le _⟩ dX9_width_27 (fun v7 H locs hf h => ?_)
      exact x_iret E h hf dX9_width_30
    · refine lv_iconst (v := 0) E.1 E.2.1 dX9_width_20 (by decide) ?_
      refine lv_goto (tgt := 30) E.1 E.2.1 dX9_width_21 (by decide) ?_
      exact x_iret E h hf dX9_width_30
set_option maxHeartbeats 4000000 in
set_option maxRecDepth 100000 in
theorem w_X9_widestWay_L33 {p : Program} {l : Launch} {e : Env} {s : State} {m : MethodId} {args : Array Value} {below : List Frame} {meth : Method} {c : Code} {D : va_G} {cy : Nat → ClassId} {s00 : State} {ad : Nat → Nat} {A : Nat → Prop}  {r9 : Int32} {S9 : XS} {u1 : Int32} {u2 : Int32} {S : XS} {K : Int32 → Option (Int32 × XS)} (E : XE p s m args meth c cX9_widestWay 4 RX9 (some .int) D cy s00) (hk : ∀ (m3 : Int32) (H : Heap) (locs : List Loc) (ls : Array Slot), K m3 = some (r9, S9) → XH D cy s00 shMod ad S A s H locs → lv_has ls 4 [(0, .ref (ad 0)), (1, .int u1), (2, .int u2), (3, .int m3)] → W p l e (xrm 2) s m args below meth c H locs 0 0 (MQ below (xqi D cy shMod ad r9 S9 A) args s 0 0 A) (F0 m 59 ls [])) :
    ∀ (n : Nat) (m3 : Int32) (H : Heap) (locs : List Loc) (ls : Array Slot), f_X9_widestWay_L33 K S u1 u2 n m3 = some (r9, S9) → XH D cy s00 shMod ad S A s H locs → lv_has ls 4 [(0, .ref (ad 0)), (1, .int u1), (2, .int u2), (3, .int m3)] → W p l e (xrm 2) s m args below meth c H locs 0 0 (MQ below (xqi D cy shMod ad r9 S9 A) args s 0 0 A) (F0 m 33 ls []) := by
  intro n
  induction n with
  | zero => intro m3 H locs ls hf; cases hf
  | succ n ih =>
    intro m3 H locs ls hf h hl
    rw [f_X9_widestWay_L33] at hf
    refine lv_iload_n E.1 E.2.1 dX9_widestWay_33 rfl (lv_at hl 3 rfl) ?_
    refine x_br hf (lv_if_le (tgt := 59) E.1 E.2.1 dX9_widestWay_34 (by decide)) (fun hf => ?_) (fun hf => ?_)
    · exact hk _ _ _ _ hf h (lv_sub hl [0, 1, 2, 3] rfl)
    · refine lv_aload_n E.1 E.2.1 dX9_widestWay_37 rfl (lv_at hl 0 rfl) ?_
      refine lv_iload_n E.1 E.2.1 dX9_widestWay_38 rfl (lv_at hl 3 rfl) ?_
      refine lv_iload_n E.1 E.2.1 dX9_widestWay_39 rfl (lv_at hl 1 rfl) ?_
      refine x_callp E h hl 0 hf (fun r0 hr => c_X9_reachedBy l D cy s00 _ S m3 u1 r0 hr) m_X9_reachedBy rfl rfl kw1856 rfl rfl (Nat.le_of_ble_eq_true rfl) ⟨by decide, by decide⟩ ⟨Nat.zero_le _, Nat.zero_le _⟩ dX9_widestWay_40 (fun v4 H locs hf h => ?_)
      refine lv_iload_n E.1 E.2.1 dX9_widestWay_43 rfl (lv_at hl 2 rfl) ?_
      refine lv_ishr E.1 E.2.1 dX9_widestWay_44 ?_
      refine lv_iconst (v := 1) E.1 E.2.1 dX9_widestWay_45 (by decide) ?_
      refine lv_iand E.1 E.2.1 dX9_widestWay_46 ?_
      refine lv_iconst (v := 1) E.1 E.2.1 dX9_widestWay_47 (by decide) ?_
      refine x_brn hf (lv_icmp_ne (tgt := 53) E.1 E.2.1 dX9_widestWay_48 (by decide)) (fun hf => ?_) (fun hf => ?_)
      · refine x_nv hf (fun v5 e9 hf => ?_)
        refine lv_iinc (v := v5) (lv' := [(3, .int v5), (0, .ref (ad 0)), (1, .int u1), (2, .int u2)]) E.1 E.2.1 dX9_widestWay_53 hl (k := 3) rfl (by rw [e9]; rfl) (by decide) rfl (fun ls hl => ?_)
        refine lv_goto (tgt := 33) E.1 E.2.1 dX9_widestWay_56 (by decide) ?_
        exact ih _ _ _ _ hf h (lv_sub hl [1, 2, 3, 0] rfl)
      · refine lv_iload_n E.1 E.2.1 dX9_widestWay_51 rfl (lv_at hl 3 rfl) ?_
        exact x_iret E h hf dX9_widestWay_52
set_option maxHeartbeats 4000000 in
set_option maxRecDepth 100000 in
theorem c_X9_widestWay (l : Launch) (D : va_G) (cy : Nat → ClassId) (s00 : State) (ad : Nat → Nat) (S : XS) (p0 p1 : Int32) (r9 : Int32) (S9 : XS) (hf : f_X9_widestWay S p0 p1 = some (r9, S9)) : XI l yX9_widestWay cX9_widestWay 4 (some .int) 2 D cy s00 shMod ad S [.ref (ad 0), .int p0, .int p1] r9 S9 := by
  refine XI.of (by decide) [(0, .ref (ad 0)), (1, .int p0), (2, .int p1)] rfl (Nat.le_of_ble_eq_true rfl) (fun p e s m args below meth c A ls E h hl => ?_)
  unfold f_X9_widestWay at hf
  refine lv_aload_n E.1 E.2.1 dX9_widestWay_0 rfl (lv_at hl 0 rfl) ?_
  refine lv_aload_n E.1 E.2.1 dX9_widestWay_1 rfl (lv_at hl 0 rfl) ?_
  refine lv_iload_n E.1 E.2.1 dX9_widestWay_2 rfl (lv_at hl 1 rfl) ?_
  refine x_callp E h hl 0 hf (fun r0 hr => c_X9_isChimney l D cy s00 _ S p0 r0 hr) m_X9_isChimney rfl rfl kw1725 rfl rfl (Nat.le_of_ble_eq_true rfl) ⟨by decide, by decide⟩ ⟨Nat.zero_le _, Nat.zero_le _⟩ dX9_widestWay_3 (fun v1 H locs hf h => ?_)
  refine x_br hf (lv_if_eq (tgt := 17) E.1 E.2.1 dX9_widestWay_6 (by decide)) (fun hf => ?_) (fun hf => ?_)
  · refine lv_iconst (v := 1) E.1 E.2.1 dX9_widestWay_17 (by decide) ?_
    refine lv_goto (tgt := 22) E.1 E.2.1 dX9_widestWay_18 (by decide) ?_
    refine x_calli E h hl 0 hf (fun r0 Sq0 hr => c_X9_throwsOne l D cy s00 _ S 1 r0 Sq0 hr) m_X9_throwsOne rfl rfl kw1697 rfl rfl (Nat.le_of_ble_eq_true rfl) ⟨by decide, by decide⟩ ⟨Nat.zero_le _, Nat.zero_le _⟩ dX9_widestWay_22 (fun v2 S3 H locs hf h => ?_)
    refine x_br hf (lv_if_eq (tgt := 30) E.1 E.2.1 dX9_widestWay_25 (by decide)) (fun hf => ?_) (fun hf => ?_)
    · refine lv_bipush (v := 9) E.1 E.2.1 dX9_widestWay_30 (by decide) ?_
      refine lv_istore_n (lv' := [(3, .int 9), (0, .ref (ad 0)), (1, .int p0), (2, .int p1)]) E.1 E.2.1 dX9_widestWay_32 rfl hl (by decide) rfl (fun ls hl => ?_)
      refine w_X9_widestWay_L33 E ?_ _ _ _ _ _ hf h (lv_sub hl [1, 2, 3, 0] rfl)
      intro v6 H locs ls hf h hl
      refine lv_iconst (v := (-1)) E.1 E.2.1 dX9_widestWay_59 (by decide) ?_
      exact x_iret E h hf dX9_widestWay_60
    · refine lv_iconst (v := 0) E.1 E.2.1 dX9_widestWay_28 (by decide) ?_
      exact x_iret E h hf dX9_widestWay_29
  · refine lv_aload_n E.1 E.2.1 dX9_widestWay_9 rfl (lv_at hl 0 rfl) ?_
    refine lv_iload_n E.1 E.2.1 dX9_widestWay_10 rfl (lv_at hl 2 rfl) ?_
    refine x_callp E h hl 0 hf (fun r0 hr => c_X9_isChimney l D cy s00 _ S p1 r0 hr) m_X9_isChimney rfl rfl kw1725 rfl rfl (Nat.le_of_ble_eq_true rfl) ⟨by decide, by decide⟩ ⟨Nat.zero_le _, Nat.zero_le _⟩ dX9_widestWay_11 (fun v7 H locs hf h => ?_)
    refine x_brn hf (lv_if_ne (tgt := 21) E.1 E.2.1 dX9_widestWay_14 (by decide)) (fun hf => ?_) (fun hf => ?_)
    · refine lv_iconst (v := 0) E.1 E.2.1 dX9_widestWay_21 (by decide) ?_
      refine x_calli E h hl 0 hf (fun r0 Sq0 hr => c_X9_throwsOne l D cy s00 _ S 0 r0 Sq0 hr) m_X9_throwsOne rfl rfl kw1697 rfl rfl (Nat.le_of_ble_eq_true rfl) ⟨by decide, by decide⟩ ⟨Nat.zero_le _, Nat.zero_le _⟩ dX9_widestWay_22 (fun v8 S9 H locs hf h => ?_)
      refine x_br hf (lv_if_eq (tgt := 30) E.1 E.2.1 dX9_widestWay_25 (by decide)) (fun hf => ?_) (fun hf => ?_)
      · refine lv_bipush (v := 9) E.1 E.2.1 dX9_widestWay_30 (by decide) ?_
        refine lv_istore_n (lv' := [(3, .int 9), (0, .ref (ad 0)), (1, .int p0), (2, .int p1)]) E.1 E.2.1 dX9_widestWay_32 rfl hl (by decide) rfl (fun ls hl => ?_)
        refine w_X9_widestWay_L33 E ?_ _ _ _ _ _ hf h (lv_sub hl [1, 2, 3, 0] rfl)
        intro v10 H locs ls hf h hl
        refine lv_iconst (v := (-1)) E.1 E.2.1 dX9_widestWay_59 (by decide) ?_
        exact x_iret E h hf dX9_widestWay_60
      · refine lv_iconst (v := 0) E.1 E.2.1 dX9_widestWay_28 (by decide) ?_
        exact x_iret E h hf dX9_widestWay_29
    · refine lv_iconst (v := 1) E.1 E.2.1 dX9_widestWay_17 (by decide) ?_
      refine lv_goto (tgt := 22) E.1 E.2.1 dX9_widestWay_18 (by decide) ?_
      refine x_calli E h hl 0 hf (fun r0 Sq0 hr => c_X9_throwsOne l D cy s00 _ S 1 r0 Sq0 hr) m_X9_throwsOne rfl rfl kw1697 rfl rfl (Nat.le_of_ble_eq_true rfl) ⟨by decide, by decide⟩ ⟨Nat.zero_le _, Nat.zero_le _⟩ dX9_widestWay_22 (fun v11 S12 H locs hf h => ?_)
      refine x_br hf (lv_if_eq (tgt := 30) E.1 E.2.1 dX9_widestWay_25 (by decide)) (fun hf => ?_) (fun hf => ?_)
      · refine lv_bipush (v := 9) E.1 E.2.1 dX9_widestWay_30 (by decide) ?_
        refine lv_istore_n (lv' := [(3, .int 9), (0, .ref (ad 0)), (1, .int p0), (2, .int p1)]) E.1 E.2.1 dX9_widestWay_32 rfl hl (by decide) rfl (fun ls hl => ?_)
        refine w_X9_widestWay_L33 E ?_ _ _ _ _ _ hf h (lv_sub hl [1, 2, 3, 0] rfl)
        intro v13 H locs ls hf h hl
        refine lv_iconst (v := (-1)) E.1 E.2.1 dX9_widestWay_59 (by decide) ?_
        exact x_iret E h hf dX9_widestWay_60
      · refine lv_iconst (v := 0) E.1 E.2.1 dX9_widestWay_28 (by decide) ?_
        exact x_iret E h hf dX9_widestWay_29
set_option maxHeartbeats 4000000 in
set_option maxRecDepth 100000 in
theorem c_X9_warmestFree (l : Launch) (D : va_G) (cy : Nat → ClassId) (s00 : State) (ad : Nat → Nat) (S : XS) (r9 : Int32) (S9 : XS) (hf : f_X9_warmestFree S = some (r9, S9)) : XI l yX9_warmestFree cX9_warmestFree 1 (some .int) 3 D cy s00 shMod ad S [.ref (ad 0)] r9 S9 := by
  refine XI.of (by decide) [(0, .ref (ad 0))] rfl (Nat.le_of_ble_eq_true rfl) (fun p e s m args below meth c A ls E h hl => ?_)
  unfold f_X9_warmestFree at hf
  refine lv_aload_n E.1 E.2.1 dX9_warmestFree_0 rfl (lv_at hl 0 rfl) ?_
  refine lv_iconst (v := 0) E.1 E.2.1 dX9_warmestFree_1 (by decide) ?_
  refine x_put (ty := .int) E h 0 16 hf rfl rfl rfl (by decide) xinX9 tyX9_ok nmX9 kw1626 rfl (by decide +kernel) rfl rfl dX9_warmestFree_2 (fun S1 H locs hf h => ?_)
  refine lv_aload_n E.1 E.2.1 dX9_warmestFree_5 rfl (lv_at hl 0 rfl) ?_
  refine x_callp E h hl 0 hf (fun r0 hr => c_X9_warmestPlace l D cy s00 _ S1  r0 hr) m_X9_warmestPlace rfl rfl kw1574 rfl rfl (Nat.le_of_ble_eq_true rfl) ⟨by decide, by decide⟩ ⟨Nat.zero_le _, Nat.zero_le _⟩ dX9_warmestFree_6 (fun v2 H locs hf h => ?_)
  exact x_iret E h hf dX9_warmestFree_9
set_option maxHeartbeats 4000000 in
set_option maxRecDepth 100000 in
theorem c_X9_catTold (l : Launch) (D : va_G) (cy : Nat → ClassId) (s00 : State) (ad : Nat → Nat) (S : XS) (p0 p1 : Int32) (r9 : Int32) (S9 : XS) (hf : f_X9_catTold S p0 p1 = some (r9, S9)) : XI l yX9_catTold cX9_catTold 3 (some .int) 2 D cy s00 shMod ad S [.ref (ad 0), .int p0, .int p1] r9 S9 := by
  refine XI.of (by decide) [(0, .ref (ad 0)), (1, .int p0), (2, .int p1)] rfl (Nat.le_of_ble_eq_true rfl) (fun p e s m args below meth c A ls E h hl => ?_)
  unfold f_X9_catTold at hf
  refine lv_aload_n E.1 E.2.1 dX9_catTold_0 rfl (lv_at hl 0 rfl) ?_
  refine lv_aload_n E.1 E.2.1 dX9_catTold_1 rfl (lv_at hl 0 rfl) ?_
  refine lv_iload_n E.1 E.2.1 dX9_catTold_2 rfl (lv_at hl 1 rfl) ?_
  refine x_callp E h hl 0 hf (fun r0 hr => c_X9_isCat l D cy s00 _ S p0 r0 hr) m_X9_isCat rfl rfl kw1744 rfl rfl (Nat.le_of_ble_eq_true rfl) ⟨by decide, by decide⟩ ⟨Nat.zero_le _, Nat.zero_le _⟩ dX9_catTold_3 (fun v1 H locs hf h => ?_)
  refine x_brn hf (lv_if_ne (tgt := 13) E.1 E.2.1 dX9_catTold_6 (by decide)) (fun hf => ?_) (fun hf => ?_)
  · refine lv_iconst (v := 0) E.1 E.2.1 dX9_catTold_13 (by decide) ?_
    refine x_calli E h hl 0 hf (fun r0 Sq0 hr => c_X9_throwsOne l D cy s00 _ S 0 r0 Sq0 hr) m_X9_throwsOne rfl rfl kw1697 rfl rfl (Nat.le_of_ble_eq_true rfl) ⟨by decide, by decide⟩ ⟨Nat.zero_le _, Nat.zero_le _⟩ dX9_catTold_14 (fun v2 S3 H locs hf h => ?_)
    refine x_br hf (lv_if_eq (tgt := 24) E.1 E.2.1 dX9_catTold_17 (by decide)) (fun hf => ?_) (fun hf => ?_)
    · refine lv_aload_n E.1 E.2.1 dX9_catTold_24 rfl (lv_at hl 0 rfl) ?_
      refine lv_iload_n E.1 E.2.1 dX9_catTold_25 rfl (lv_at hl 1 rfl) ?_
      refine lv_iload_n E.1 E.2.1 dX9_catTold_26 rfl (lv_at hl 2 rfl) ?_
      refine x_callp E h hl 0 hf (fun r0 hr => c_X9_of l D cy s00 _ S3 p0 p1 r0 hr) m_X9_of rfl rfl kw1429 rfl rfl (Nat.le_of_ble_eq_true rfl) ⟨by decide, by decide⟩ ⟨Nat.zero_le _, Nat.zero_le _⟩ dX9_catTold_27 (fun v4 H locs hf h => ?_)
      exact x_iret E h hf dX9_catTold_30
    · refine lv_iconst (v := 0) E.1 E.2.1 dX9_catTold_20 (by decide) ?_
      refine lv_goto (tgt := 30) E.1 E.2.1 dX9_catTold_21 (by decide) ?_
      exact x_iret E h hf dX9_catTold_30
  · refine lv_iconst (v := 1) E.1 E.2.1 dX9_catTold_9 (by decide) ?_
    refine lv_goto (tgt := 14) E.1 E.2.1 dX9_catTold_10 (by decide) ?_
    refine x_calli E h hl 0 hf (fun r0 Sq0 hr => c_X9_throwsOne l D cy s00 _ S 1 r0 Sq0 hr) m_X9_throwsOne rfl rfl kw1697 rfl rfl (Nat.le_of_ble_eq_true rfl) ⟨by decide, by decide⟩ ⟨Nat.zero_le _, Nat.zero_le _⟩ dX9_catTold_14 (fun v5 S6 H locs hf h => ?_)
    refine x_br hf (lv_if_eq (tgt := 24) E.1 E.2.1 dX9_catTold_17 (by decide)) (fun hf => ?_) (fun hf => ?_)
    · refine lv_aload_n E.1 E.2.1 dX9_catTold_24 rfl (lv_at hl 0 rfl) ?_
      refine lv_iload_n E.1 E.2.1 dX9_catTold_25 rfl (lv_at hl 1 rfl) ?_
      refine lv_iload_n E.1 E.2.1 dX9_catTold_26 rfl (lv_at hl 2 rfl) ?_
      refine x_callp E h hl 0 hf (fun r0 hr => c_X9_of l D cy s00 _ S6 p0 p1 r0 hr) m_X9_of rfl rfl kw1429 rfl rfl (Nat.le_of_ble_eq_true rfl) ⟨by decide, by decide⟩ ⟨Nat.zero_le _, Nat.zero_le _⟩ dX9_catTold_27 (fun v7 H locs hf h => ?_)
      exact x_iret E h hf dX9_catTold_30
    · refine lv_iconst (v := 0) E.1 E.2.1 dX9_catTold_20 (by decide) ?_
      refine lv_goto (tgt := 30) E.1 E.2.1 dX9_catTold_21 (by decide) ?_
      exact x_iret E h hf dX9_catTold_30
set_option maxHeartbeats 4000000 in
set_option maxRecDepth 100000 in
theorem c_X9_girth (l : Launch) (D : va_G) (cy : Nat → ClassId) (s00 : State) (ad : Nat → Nat) (S : XS) (p0 : Int32) (r9 : Int32) (S9 : XS) (hf : f_X9_girth S p0 = some (r9, S9)) : XI l yX9_girth cX9_girth 2 (some .int) 3 D cy s00 shMod ad S [.ref (ad 0), .int p0] r9 S9 := by
  refine XI.of (by decide) [(0, .ref (ad 0)), (1, .int p0)] rfl (Nat.le_of_ble_eq_true rfl) (fun p e s m args below meth c A ls E h hl => ?_)
  unfold f_X9_girth at hf
  refine lv_aload_n E.1 E.2.1 dX9_girth_0 rfl (lv_at hl 0 rfl) ?_
  refine lv_iload_n E.1 E.2.1 dX9_girth_1 rfl (lv_at hl 1 rfl) ?_
  refine lv_iconst (v := 0) E.1 E.2.1 dX9_girth_2 (by decide) ?_
  refine x_calli E h hl 0 hf (fun r0 Sq0 hr => c_X9_catTold l D cy s00 _ S p0 0 r0 Sq0 hr) m_X9_catTold rfl rfl kw1868 rfl rfl (Nat.le_of_ble_eq_true rfl) ⟨by decide, by decide⟩ ⟨Nat.zero_le _, Nat.zero_le _⟩ dX9_girth_3 (fun v1 S2 H locs hf h => ?_)
  exact x_iret E h hf dX9_girth_6
set_option maxHeartbeats 4000000 in
set_option maxRecDepth 100000 in
theorem c_X9_power (l : Launch) (D : va_G) (cy : Nat → ClassId) (s00 : State) (ad : Nat → Nat) (S : XS) (p0 : Int32) (r9 : Int32) (S9 : XS) (hf : f_X9_power S p0 = some (r9, S9)) : XI l yX9_power cX9_power 2 (some .int) 3 D cy s00 shMod ad S [.ref (ad 0), .int p0] r9 S9 := by
  refine XI.of (by decide) [(0, .ref (ad 0)), (1, .int p0)] rfl (Nat.le_of_ble_eq_true rfl) (fun p e s m args below meth c A ls E h hl => ?_)
  unfold f_X9_power at hf
  refine lv_aload_n E.1 E.2.1 dX9_power_0 rfl (lv_at hl 0 rfl) ?_
  refine lv_aload_n E.1 E.2.1 dX9_power_1 rfl (lv_at hl 0 rfl) ?_
  refine lv_iload_n E.1 E.2.1 dX9_power_2 rfl (lv_at hl 1 rfl) ?_
  refine x_callp E h hl 0 hf (fun r0 hr => c_X9_isCat l D cy s00 _ S p0 r0 hr) m_X9_isCat rfl rfl kw1744 rfl rfl (Nat.le_of_ble_eq_true rfl) ⟨by decide, by decide⟩ ⟨Nat.zero_le _, Nat.zero_le _⟩ dX9_power_3 (fun v1 H locs hf h => ?_)
  refine x_brn hf (lv_if_ne (tgt := 13) E.1 E.2.1 dX9_power_6 (by decide)) (fun hf => ?_) (fun hf => ?_)
  · refine lv_iconst (v := 0) E.1 E.2.1 dX9_power_13 (by decide) ?_
    refine x_calli E h hl 0 hf (fun r0 Sq0 hr => c_X9_throwsOne l D cy s00 _ S 0 r0 Sq0 hr) m_X9_throwsOne rfl rfl kw1697 rfl rfl (Nat.le_of_ble_eq_true rfl) ⟨by decide, by decide⟩ ⟨Nat.zero_le _, Nat.zero_le _⟩ dX9_power_14 (fun v2 S3 H locs hf h => ?_)
    refine x_br hf (lv_if_eq (tgt := 24) E.1 E.2.1 dX9_power_17 (by decide)) (fun hf => ?_) (fun hf => ?_)
    · refine lv_aload_n E.1 E.2.1 dX9_power_24 rfl (lv_at hl 0 rfl) ?_
      refine lv_iload_n E.1 E.2.1 dX9_power_25 rfl (lv_at hl 1 rfl) ?_
      refine x_callp E h hl 0 hf (fun r0 hr => c_X9_powerOf l D cy s00 _ S3 p0 r0 hr) m_X9_powerOf rfl rfl kw1518 rfl rfl (Nat.le_of_ble_eq_true rfl) ⟨by decide, by decide⟩ ⟨Nat.zero_le _, Nat.zero_le _⟩ dX9_power_26 (fun v4 H locs hf h => ?_)
      exact x_iret E h hf dX9_power_29
    · refine lv_iconst (v := 0) E.1 E.2.1 dX9_power_20 (by decide) ?_
      refine lv_goto (tgt := 29) E.1 E.2.1 dX9_power_21 (by decide) ?_
      exact x_iret E h hf dX9_power_29
  · refine lv_iconst (v := 1) E.1 E.2.1 dX9_power_9 (by decide) ?_
    refine lv_goto (tgt := 14) E.1 E.2.1 dX9_power_10 (by decide) ?_
    refine x_calli E h hl 0 hf (fun r0 Sq0 hr => c_X9_throwsOne l D cy s00 _ S 1 r0 Sq0 hr) m_X9_throwsOne rfl rfl kw1697 rfl rfl (Nat.le_of_ble_eq_true rfl) ⟨by decide, by decide⟩ ⟨Nat.zero_le _, Nat.zero_le _⟩ dX9_power_14 (fun v5 S6 H locs hf h => ?_)
    refine x_br hf (lv_if_eq (tgt := 24) E.1 E.2.1 dX9_power_17 (by decide)) (fun hf => ?_) (fun hf => ?_)
    · refine lv_aload_n E.1 E.2.1 dX9_power_24 rfl (lv_at hl 0 rfl) ?_
      refine lv_iload_n E.1 E.2.1 dX9_power_25 rfl (lv_at hl 1 rfl) ?_
      refine x_callp E h hl 0 hf (fun r0 hr => c_X9_powerOf l D cy s00 _ S6 p0 r0 hr) m_X9_powerOf rfl rfl kw1518 rfl rfl (Nat.le_of_ble_eq_true rfl) ⟨by decide, by decide⟩ ⟨Nat.zero_le _, Nat.zero_le _⟩ dX9_power_26 (fun v7 H locs hf h => ?_)
      exact x_iret E h hf dX9_power_29
    · refine lv_iconst (v := 0) E.1 E.2.1 dX9_power_20 (by decide) ?_
      refine lv_goto (tgt := 29) E.1 E.2.1 dX9_power_21 (by decide) ?_
      exact x_iret E h hf dX9_power_29
set_option maxHeartbeats 4000000 in
set_option maxRecDepth 100000 in
theorem c_X9_fish (l : Launch) (D : va_G) (cy : Nat → ClassId) (s00 : State) (ad : Nat → Nat) (S : XS) (p0 : Int32) (r9 : Int32) (S9 : XS) (hf : f_X9_fish S p0 = some (r9, S9)) : XI l yX9_fish cX9_fish 2 (some .int) 3 D cy s00 shMod ad S [.ref (ad 0), .int p0] r9 S9 := by
  refine XI.of (by decide) [(0, .ref (ad 0)), (1, .int p0)] rfl (Nat.le_of_ble_eq_true rfl) (fun p e s m args below meth c A ls E h hl => ?_)
  unfold f_X9_fish at hf
  refine lv_aload_n E.1 E.2.1 dX9_fish_0 rfl (lv_at hl 0 rfl) ?_
  refine lv_iload_n E.1 E.2.1 dX9_fish_1 rfl (lv_at hl 1 rfl) ?_
  refine lv_iconst (v := 2) E.1 E.2.1 dX9_fish_2 (by decide) ?_
  refine x_calli E h hl 0 hf (fun r0 Sq0 hr => c_X9_catTold l D cy s00 _ S p0 2 r0 Sq0 hr) m_X9_catTold rfl rfl kw1868 rfl rfl (Nat.le_of_ble_eq_true rfl) ⟨by decide, by decide⟩ ⟨Nat.zero_le _, Nat.zero_le _⟩ dX9_fish_3 (fun v1 S2 H locs hf h => ?_)
  exact x_iret E h hf dX9_fish_6
set_option maxHeartbeats 4000000 in
set_option maxRecDepth 100000 in
theorem c_X9_chimneyOf (l : Launch) (D : va_G) (cy : Nat → ClassId) (s00 : State) (ad : Nat → Nat) (S : XS) (p0 : Int32) (r9 : Int32) (S9 : XS) (hf : f_X9_chimneyOf S p0 = some (r9, S9)) : XI l yX9_chimneyOf cX9_chimneyOf 2 (some .int) 3 D cy s00 shMod ad S [.ref (ad 0), .int p0] r9 S9 := by
  refine XI.of (by decide) [(0, .ref (ad 0)), (1, .int p0)] rfl (Nat.le_of_ble_eq_true rfl) (fun p e s m args below meth c A ls E h hl => ?_)
  unfold f_X9_chimneyOf at hf
  refine lv_aload_n E.1 E.2.1 dX9_chimneyOf_0 rfl (lv_at hl 0 rfl) ?_
  refine lv_iload_n E.1 E.2.1 dX9_chimneyOf_1 rfl (lv_at hl 1 rfl) ?_
  refine lv_iconst (v := 3) E.1 E.2.1 dX9_chimneyOf_2 (by decide) ?_
  refine x_calli E h hl 0 hf (fun r0 Sq0 hr => c_X9_catTold l D cy s00 _ S p0 3 r0 Sq0 hr) m_X9_catTold rfl rfl kw1868 rfl rfl (Nat.le_of_ble_eq_true rfl) ⟨by decide, by decide⟩ ⟨Nat.zero_le _, Nat.zero_le _⟩ dX9_chimneyOf_3 (fun v1 S2 H locs hf h => ?_)
  exact x_iret E h hf dX9_chimneyOf_6
set_option maxHeartbeats 4000000 in
set_option maxRecDepth 100000 in
theorem w_X9_ownedChimneys_L26 {p : Program} {l : Launch} {e : Env} {s : State} {m : MethodId} {args : Array Value} {below : List Frame} {meth : Method} {c : Code} {D : va_G} {cy : Nat → ClassId} {s00 : State} {ad : Nat → Nat} {A : Nat → Prop}  {r9 : Int32} {S9 : XS} {u1 : Int32} {S : XS} {K : Int32 → Int32 → Option (Int32 × XS)} (E : XE p s m args meth c cX9_ownedChimneys 4 RX9 (some .int) D cy s00) (hk : ∀ (m2 m3 : Int32) (H : Heap) (locs : List Loc) (ls : Array Slot), K m2 m3 = some (r9, S9) → XH D cy s00 shMod ad S A s H locs → lv_has ls 4 [(0, .ref (ad 0)), (1, .int u1), (2, .int m2), (3, .int m3)] → W p l e (xrm 2) s m args below meth c H locs 0 0 (MQ below (xqi D cy shMod ad r9 S9 A) args s 0 0 A) (F0 m 61 ls [])) :
    ∀ (n : Nat) (m2 m3 : Int32) (H : Heap) (locs : List Loc) (ls : Array Slot), f_X9_ownedChimneys_L26 K S u1 n m2 m3 = some (r9, S9) → XH D cy s00 shMod ad S A s H locs → lv_has ls 4 [(0, .ref (ad 0)), (1, .int u1), (2, .int m2), (3, .int m3)] → W p l e (xrm 2) s m args below meth c H locs 0 0 (MQ below (xqi D cy shMod ad r9 S9 A) args s 0 0 A) (F0 m 26 ls []) := by
  intro n
  induction n with
  | zero => intro m2 m3 H locs ls hf; cases hf
  | succ n ih =>
    intro m2 m3 H locs ls hf h hl
    rw [f_X9_ownedChimneys_L26] at hf
    refine lv_iload_n E.1 E.2.1 dX9_ownedChimneys_26 rfl (lv_at hl 3 rfl) ?_
    refine lv_aload_n E.1 E.2.1 dX9_ownedChimneys_27 rfl (lv_at hl 0 rfl) ?_
    refine x_getr E h 0 0 1 rfl rfl rfl (by decide) xinX9 kw1610 dX9_ownedChimneys_28 ?_
    refine lv_iconst (v := 0) E.1 E.2.1 dX9_ownedChimneys_31 (by decide) ?_
    refine x_iald E h 1 hf rfl dX9_ownedChimneys_32 (fun v4 hf => ?_)
    refine x_br hf (lv_icmp_ge (tgt := 61) E.1 E.2.1 dX9_ownedChimneys_33 (by decide)) (fun hf => ?_) (fun hf => ?_)
    · exact hk _ _ _ _ _ hf h (lv_sub hl [0, 1, 2, 3] rfl)
    · refine lv_iload_n E.1 E.2.1 dX9_ownedChimneys_36 rfl (lv_at hl 2 rfl) ?_
      refine lv_aload_n E.1 E.2.1 dX9_ownedChimneys_37 rfl (lv_at hl 0 rfl) ?_
      refine lv_iload_n E.1 E.2.1 dX9_ownedChimneys_38 rfl (lv_at hl 3 rfl) ?_
      refine x_callp E h hl 0 hf (fun r0 hr => c_X9_owner l D cy s00 _ S m3 r0 hr) m_X9_owner rfl rfl kw1465 rfl rfl (Nat.le_of_ble_eq_true rfl) ⟨by decide, by decide⟩ ⟨Nat.zero_le _, Nat.zero_le _⟩ dX9_ownedChimneys_39 (fun v5 H locs hf h => ?_)
      refine lv_iload_n E.1 E.2.1 dX9_ownedChimneys_42 rfl (lv_at hl 1 rfl) ?_
      refine x_brn hf (lv_icmp_ne (tgt := 52) E.1 E.2.1 dX9_ownedChimneys_43 (by decide)) (fun hf => ?_) (fun hf => ?_)
      · refine lv_iconst (v := 0) E.1 E.2.1 dX9_ownedChimneys_52 (by decide) ?_
        refine lv_ior E.1 E.2.1 dX9_ownedChimneys_53 ?_
        refine x_nm hf (fun v6 hf => ?_)
        refine lv_istore_n (lv' := [(2, .int v6), (0, .ref (ad 0)), (1, .int u1), (3, .int m3)]) E.1 E.2.1 dX9_ownedChimneys_54 rfl hl (by decide) rfl (fun ls hl => ?_)
        refine x_nv hf (fun v7 e9 hf => ?_)
        refine lv_iinc (v := v7) (lv' := [(3, .int v7), (2, .int v6), (0, .ref (ad 0)), (1, .int u1)]) E.1 E.2.1 dX9_ownedChimneys_55 hl (k := 3) rfl (by rw [e9]; rfl) (by decide) rfl (fun ls hl => ?_)
        refine lv_goto (tgt := 26) E.1 E.2.1 dX9_ownedChimneys_58 (by decide) ?_
        exact ih _ _ _ _ _ hf h (lv_sub hl [2, 3, 1, 0] rfl)
      · refine lv_iconst (v := 1) E.1 E.2.1 dX9_ownedChimneys_46 (by decide) ?_
        refine lv_iload_n E.1 E.2.1 dX9_ownedChimneys_47 rfl (lv_at hl 3 rfl) ?_
        refine lv_ishl E.1 E.2.1 dX9_ownedChimneys_48 ?_
        refine lv_goto (tgt := 53) E.1 E.2.1 dX9_ownedChimneys_49 (by decide) ?_
        refine lv_ior E.1 E.2.1 dX9_ownedChimneys_53 ?_
        refine x_nm hf (fun v8 hf => ?_)
        refine lv_istore_n (lv' := [(2, .int v8), (0, .ref (ad 0)), (1, .int u1), (3, .int m3)]) E.1 E.2.1 dX9_ownedChimneys_54 rfl hl (by decide) rfl (fun ls hl => ?_)
        refine x_nv hf (fun v9 e9 hf => ?_)
        refine lv_iinc (v := v9) (lv' := [(3, .int v9), (2, .int v8), (0, .ref (ad 0)), (1, .int u1)]) E.1 E.2.1 dX9_ownedChimneys_55 hl (k := 3) rfl (by rw [e9]; rfl) (by decide) rfl (fun ls hl => ?_)
        refine lv_goto (tgt := 26) E.1 E.2.1 dX9_ownedChimneys_58 (by decide) ?_
        exact ih _ _ _ _ _ hf h (lv_sub hl [2, 3, 1, 0] rfl)
set_option maxHeartbeats 4000000 in
set_option maxRecDepth 100000 in
theorem c_X9_ownedChimneys (l : Launch) (D : va_G) (cy : Nat → ClassId) (s00 : State) (ad : Nat → Nat) (S : XS) (p0 : Int32) (r9 : Int32) (S9 : XS) (hf : f_X9_ownedChimneys S p0 = some (r9, S9)) : XI l yX9_ownedChimneys cX9_ownedChimneys 4 (some .int) 2 D cy s00 shMod ad S [.ref (ad 0), .int p0] r9 S9 := by
  refine XI.of (by decide) [(0, .ref (ad 0)), (1, .int p0)] rfl (Nat.le_of_ble_eq_true rfl) (fun p e s m args below meth c A ls E h hl => ?_)
  unfold f_X9_ownedChimneys at hf
  refine lv_aload_n E.1 E.2.1 dX9_ownedChimneys_0 rfl (lv_at hl 0 rfl) ?_
  refine lv_aload_n E.1 E.2.1 dX9_ownedChimneys_1 rfl (lv_at hl 0 rfl) ?_
  refine lv_iload_n E.1 E.2.1 dX9_ownedChimneys_2 rfl (lv_at hl 1 rfl) ?_
  refine x_callp E h hl 0 hf (fun r0 hr => c_X9_isCat l D cy s00 _ S p0 r0 hr) m_X9_isCat rfl rfl kw1744 rfl rfl (Nat.le_of_ble_eq_true rfl) ⟨by decide, by decide⟩ ⟨Nat.zero_le _, Nat.zero_le _⟩ dX9_ownedChimneys_3 (fun v1 H locs hf h => ?_)
  refine x_brn hf (lv_if_ne (tgt := 13) E.1 E.2.1 dX9_ownedChimneys_6 (by decide)) (fun hf => ?_) (fun hf => ?_)
  · refine lv_iconst (v := 0) E.1 E.2.1 dX9_ownedChimneys_13 (by decide) ?_
    refine x_calli E h hl 0 hf (fun r0 Sq0 hr => c_X9_throwsOne l D cy s00 _ S 0 r0 Sq0 hr) m_X9_throwsOne rfl rfl kw1697 rfl rfl (Nat.le_of_ble_eq_true rfl) ⟨by decide, by decide⟩ ⟨Nat.zero_le _, Nat.zero_le _⟩ dX9_ownedChimneys_14 (fun v2 S3 H locs hf h => ?_)
    refine x_br hf (lv_if_eq (tgt := 22) E.1 E.2.1 dX9_ownedChimneys_17 (by decide)) (fun hf => ?_) (fun hf => ?_)
    · refine lv_iconst (v := 0) E.1 E.2.1 dX9_ownedChimneys_22 (by decide) ?_
      refine lv_istore_n (lv' := [(2, .int 0), (0, .ref (ad 0)), (1, .int p0)]) E.1 E.2.1 dX9_ownedChimneys_23 rfl hl (by decide) rfl (fun ls hl => ?_)
      refine lv_iconst (v := 0) E.1 E.2.1 dX9_ownedChimneys_24 (by decide) ?_
      refine lv_istore_n (lv' := [(3, .int 0), (2, .int 0), (0, .ref (ad 0)), (1, .int p0)]) E.1 E.2.1 dX9_ownedChimneys_25 rfl hl (by decide) rfl (fun ls hl => ?_)
      refine w_X9_ownedChimneys_L26 E ?_ _ _ _ _ _ _ hf h (lv_sub hl [2, 3, 1, 0] rfl)
      intro v10 v11 H locs ls hf h hl
      refine lv_iload_n E.1 E.2.1 dX9_ownedChimneys_61 rfl (lv_at hl 2 rfl) ?_
      exact x_iret E h hf dX9_ownedChimneys_62
    · refine lv_iconst (v := 0) E.1 E.2.1 dX9_ownedChimneys_20 (by decide) ?_
      exact x_iret E h hf dX9_ownedChimneys_21
  · refine lv_iconst (v := 1) E.1 E.2.1 dX9_ownedChimneys_9 (by decide) ?_
    refine lv_goto (tgt := 14) E.1 E.2.1 dX9_ownedChimneys_10 (by decide) ?_
    refine x_calli E h hl 0 hf (fun r0 Sq0 hr => c_X9_throwsOne l D cy s00 _ S 1 r0 Sq0 hr) m_X9_throwsOne rfl rfl kw1697 rfl rfl (Nat.le_of_ble_eq_true rfl) ⟨by decide, by decide⟩ ⟨Nat.zero_le _, Nat.zero_le _⟩ dX9_ownedChimneys_14 (fun v12 S13 H locs hf h => ?_)
    refine x_br hf (lv_if_eq (tgt := 22) E.1 E.2.1 dX9_ownedChimneys_17 (by decide)) (fun hf => ?_) (fun hf => ?_)
    · refine lv_iconst (v := 0) E.1 E.2.1 dX9_ownedChimneys_22 (by decide) ?_
      refine lv_istore_n (lv' := [(2, .int 0), (0, .ref (ad 0)), (1, .int p0)]) E.1 E.2.1 dX9_ownedChimneys_23 rfl hl (by decide) rfl (fun ls hl => ?_)
      refine lv_iconst (v := 0) E.1 E.2.1 dX9_ownedChimneys_24 (by decide) ?_
      refine lv_istore_n (lv' := [(3, .int 0), (2, .int 0), (0, .ref (ad 0)), (1, .int p0)]) E.1 E.2.1 dX9_ownedChimneys_25 rfl hl (by decide) rfl (fun ls hl => ?_)
      refine w_X9_ownedChimneys_L26 E ?_ _ _ _ _ _ _ hf h (lv_sub hl [2, 3, 1, 0] rfl)
      intro v14 v15 H locs ls hf h hl
      refine lv_iload_n E.1 E.2.1 dX9_ownedChimneys_61 rfl (lv_at hl 2 rfl) ?_
      exact x_iret E h hf dX9_ownedChimneys_62
    · refine lv_iconst (v := 0) E.1 E.2.1 dX9_ownedChimneys_20 (by decide) ?_
      exact x_iret E h hf dX9_ownedChimneys_21
set_option maxHeartbeats 4000000 in
set_option maxRecDepth 100000 in
theorem c_X9_truceNights (l : Launch) (D : va_G) (cy : Nat → ClassId) (s00 : State) (ad : Nat → Nat) (S : XS) (p0 p1 : Int32) (r9 : Int32) (S9 : XS) (hf : f_X9_truceNights S p0 p1 = some (r9, S9)) : XI l yX9_truceNights cX9_truceNights 3 (some .int) 3 D cy s00 shMod ad S [.ref (ad 0), .int p0, .int p1] r9 S9 := by
  refine XI.of (by decide) [(0, .ref (ad 0)), (1, .int p0), (2, .int p1)] rfl (Nat.le_of_ble_eq_true rfl) (fun p e s m args below meth c A ls E h hl => ?_)
  unfold f_X9_truceNights at hf
  refine lv_aload_n E.1 E.2.1 dX9_truceNights_0 rfl (lv_at hl 0 rfl) ?_
  refine lv_aload_n E.1 E.2.1 dX9_truceNights_1 rfl (lv_at hl 0 rfl) ?_
  refine lv_iload_n E.1 E.2.1 dX9_truceNights_2 rfl (lv_at hl 1 rfl) ?_
  refine lv_iload_n E.1 E.2.1 dX9_truceNights_3 rfl (lv_at hl 2 rfl) ?_
  refine x_callp E h hl 0 hf (fun r0 hr => c_X9_areCats l D cy s00 _ S p0 p1 r0 hr) m_X9_areCats rfl rfl kw1764 rfl rfl (Nat.le_of_ble_eq_true rfl) ⟨by decide, by decide⟩ ⟨Nat.zero_le _, Nat.zero_le _⟩ dX9_truceNights_4 (fun v1 H locs hf h => ?_)
  refine x_brn hf (lv_if_ne (tgt := 14) E.1 E.2.1 dX9_truceNights_7 (by decide)) (fun hf => ?_) (fun hf => ?_)
  · refine lv_iconst (v := 0) E.1 E.2.1 dX9_truceNights_14 (by decide) ?_
    refine lv_iload_n E.1 E.2.1 dX9_truceNights_15 rfl (lv_at hl 1 rfl) ?_
    refine lv_iload_n E.1 E.2.1 dX9_truceNights_16 rfl (lv_at hl 2 rfl) ?_
    refine x_brn hf (lv_icmp_ne (tgt := 24) E.1 E.2.1 dX9_truceNights_17 (by decide)) (fun hf => ?_) (fun hf => ?_)
    · refine lv_iconst (v := 0) E.1 E.2.1 dX9_truceNights_24 (by decide) ?_
      refine x_calli E h hl 0 hf (fun r0 Sq0 hr => c_X9_throwsOne_ l D cy s00 _ S 0 0 r0 Sq0 hr) m_X9_throwsOne_ rfl rfl kw1717 rfl rfl (Nat.le_of_ble_eq_true rfl) ⟨by decide, by decide⟩ ⟨Nat.zero_le _, Nat.zero_le _⟩ dX9_truceNights_25 (fun v2 S3 H locs hf h => ?_)
      refine x_br hf (lv_if_eq (tgt := 35) E.1 E.2.1 dX9_truceNights_28 (by decide)) (fun hf => ?_) (fun hf => ?_)
      · refine lv_aload_n E.1 E.2.1 dX9_truceNights_35 rfl (lv_at hl 0 rfl) ?_
        refine lv_iload_n E.1 E.2.1 dX9_truceNights_36 rfl (lv_at hl 1 rfl) ?_
        refine lv_iload_n E.1 E.2.1 dX9_truceNights_37 rfl (lv_at hl 2 rfl) ?_
        refine x_callp E h hl 0 hf (fun r0 hr => c_X9_truceLeft l D cy s00 _ S3 p0 p1 r0 hr) m_X9_truceLeft rfl rfl kw1469 rfl rfl (Nat.le_of_ble_eq_true rfl) ⟨by decide, by decide⟩ ⟨Nat.zero_le _, Nat.zero_le _⟩ dX9_truceNights_38 (fun v4 H locs hf h => ?_)
        exact x_iret E h hf dX9_truceNights_41
      · refine lv_iconst (v := 0) E.1 E.2.1 dX9_truceNights_31 (by decide) ?_
        refine lv_goto (tgt := 41) E.1 E.2.1 dX9_truceNights_32 (by decide) ?_
        exact x_iret E h hf dX9_truceNights_41
    · refine lv_iconst (v := 1) E.1 E.2.1 dX9_truceNights_20 (by decide) ?_
      refine lv_goto (tgt := 25) E.1 E.2.1 dX9_truceNights_21 (by decide) ?_
      refine x_calli E h hl 0 hf (fun r0 Sq0 hr => c_X9_throwsOne_ l D cy s00 _ S 0 1 r0 Sq0 hr) m_X9_throwsOne_ rfl rfl kw1717 rfl rfl (Nat.le_of_ble_eq_true rfl) ⟨by decide, by decide⟩ ⟨Nat.zero_le _, Nat.zero_le _⟩ dX9_truceNights_25 (fun v5 S6 H locs hf h => ?_)
      refine x_br hf (lv_if_eq (tgt := 35) E.1 E.2.1 dX9_truceNights_28 (by decide)) (fun hf => ?_) (fun hf => ?_)
      · refine lv_aload_n E.1 E.2.1 dX9_truceNights_35 rfl (lv_at hl 0 rfl) ?_
        refine lv_iload_n E.1 E.2.1 dX9_truceNights_36 rfl (lv_at hl 1 rfl) ?_
        refine lv_iload_n E.1 E.2.1 dX9_truceNights_37 rfl (lv_at hl 2 rfl) ?_
        refine x_callp E h hl 0 hf (fun r0 hr => c_X9_truceLeft l D cy s00 _ S6 p0 p1 r0 hr) m_X9_truceLeft rfl rfl kw1469 rfl rfl (Nat.le_of_ble_eq_true rfl) ⟨by decide, by decide⟩ ⟨Nat.zero_le _, Nat.zero_le _⟩ dX9_truceNights_38 (fun v7 H locs hf h => ?_)
        exact x_iret E h hf dX9_truceNights_41
      · refine lv_iconst (v := 0) E.1 E.2.1 dX9_truceNights_31 (by decide) ?_
        refine lv_goto (tgt := 41) E.1 E.2.1 dX9_truceNights_32 (by decide) ?_
        exact x_iret E h hf dX9_truceNights_41
  · refine lv_iconst (v := 1) E.1 E.2.1 dX9_truceNights_10 (by decide) ?_
    refine lv_goto (tgt := 15) E.1 E.2.1 dX9_truceNights_11 (by decide) ?_
    refine lv_iload_n E.1 E.2.1 dX9_truceNights_15 rfl (lv_at hl 1 rfl) ?_
    refine lv_iload_n E.1 E.2.1 dX9_truceNights_16 rfl (lv_at hl 2 rfl) ?_
    refine x_brn hf (lv_icmp_ne (tgt := 24) E.1 E.2.1 dX9_truceNights_17 (by decide)) (fun hf => ?_) (fun hf => ?_)
    · refine lv_iconst (v := 0) E.1 E.2.1 dX9_truceNights_24 (by decide) ?_
      refine x_calli E h hl 0 hf (fun r0 Sq0 hr => c_X9_throwsOne_ l D cy s00 _ S 1 0 r0 Sq0 hr) m_X9_throwsOne_ rfl rfl kw1717 rfl rfl (Nat.le_of_ble_eq_true rfl) ⟨by decide, by decide⟩ ⟨Nat.zero_le _, Nat.zero_le _⟩ dX9_truceNights_25 (fun v8 S9 H locs hf h => ?_)
      refine x_br hf (lv_if_eq (tgt := 35) E.1 E.2.1 dX9_truceNights_28 (by decide)) (fun hf => ?_) (fun hf => ?_)
      · refine lv_aload_n E.1 E.2.1 dX9_truceNights_35 rfl (lv_at hl 0 rfl) ?_
        refine lv_iload_n E.1 E.2.1 dX9_truceNights_36 rfl (lv_at hl 1 rfl) ?_
        refine lv_iload_n E.1 E.2.1 dX9_truceNights_37 rfl (lv_at hl 2 rfl) ?_
        refine x_callp E h hl 0 hf (fun r0 hr => c_X9_truceLeft l D cy s00 _ S9 p0 p1 r0 hr) m_X9_truceLeft rfl rfl kw1469 rfl rfl (Nat.le_of_ble_eq_true rfl) ⟨by decide, by decide⟩ ⟨Nat.zero_le _, Nat.zero_le _⟩ dX9_truceNights_38 (fun v10 H locs hf h => ?_)
        exact x_iret E h hf dX9_truceNights_41
      · refine lv_iconst (v := 0) E.1 E.2.1 dX9_truceNights_31 (by decide) ?_
        refine lv_goto (tgt := 41) E.1 E.2.1 dX9_truceNights_32 (by decide) ?_
        exact x_iret E h hf dX9_truceNights_41
    · refine lv_iconst (v := 1) E.1 E.2.1 dX9_truceNights_20 (by decide) ?_
      refine lv_goto (tgt := 25) E.1 E.2.1 dX9_truceNights_21 (by decide) ?_
      refine x_calli E h hl 0 hf (fun r0 Sq0 hr => c_X9_throwsOne_ l D cy s00 _ S 1 1 r0 Sq0 hr) m_X9_throwsOne_ rfl rfl kw1717 rfl rfl (Nat.le_of_ble_eq_true rfl) ⟨by decide, by decide⟩ ⟨Nat.zero_le _, Nat.zero_le _⟩ dX9_truceNights_25 (fun v11 S12 H locs hf h => ?_)
      refine x_br hf (lv_if_eq (tgt := 35) E.1 E.2.1 dX9_truceNights_28 (by decide)) (fun hf => ?_) (fun hf => ?_)
      · refine lv_aload_n E.1 E.2.1 dX9_truceNights_35 rfl (lv_at hl 0 rfl) ?_
        refine lv_iload_n E.1 E.2.1 dX9_truceNights_36 rfl (lv_at hl 1 rfl) ?_
        refine lv_iload_n E.1 E.2.1 dX9_truceNights_37 rfl (lv_at hl 2 rfl) ?_
        refine x_callp E h hl 0 hf (fun r0 hr => c_X9_truceLeft l D cy s00 _ S12 p0 p1 r0 hr) m_X9_truceLeft rfl rfl kw1469 rfl rfl (Nat.le_of_ble_eq_true rfl) ⟨by decide, by decide⟩ ⟨Nat.zero_le _, Nat.zero_le _⟩ dX9_truceNights_38 (fun v13 H locs hf h => ?_)
        exact x_iret E h hf dX9_truceNights_41
      · refine lv_iconst (v := 0) E.1 E.2.1 dX9_truceNights_31 (by decide) ?_
        refine lv_goto (tgt := 41) E.1 E.2.1 dX9_truceNights_32 (by decide) ?_
        exact x_iret E h hf dX9_truceNights_41
set_option maxHeartbeats 4000000 in
set_option maxRecDepth 100000 in
theorem w_X9_reachable_L31 {p : Program} {l : Launch} {e : Env} {s : State} {m : MethodId} {args : Array Value} {below : List Frame} {meth : Method} {c : Code} {D : va_G} {cy : Nat → ClassId} {s00 : State} {ad : Nat → Nat} {A : Nat → Prop}  {r9 : Int32} {S9 : XS} {u1 : Int32} {S : XS} {K : Int32 → Int32 → Option (Int32 × XS)} (E : XE p s m args meth c cX9_reachable 4 RX9 (some .int) D cy s00) (hk : ∀ (m2 m3 : Int32) (H : Heap) (locs : List Loc) (ls : Array Slot), K m2 m3 = some (r9, S9) → XH D cy s00 shMod ad S A s H locs → lv_has ls 4 [(0, .ref (ad 0)), (1, .int u1), (2, .int m2), (3, .int m3)] → W p l e (xrm 5) s m args below meth c H locs 0 0 (MQ below (xqi D cy shMod ad r9 S9 A) args s 0 0 A) (F0 m 67 ls [])) :
    ∀ (n : Nat) (m2 m3 : Int32) (H : Heap) (locs : List Loc) (ls : Array Slot), f_X9_reachable_L31 K S u1 n m2 m3 = some (r9, S9) → XH D cy s00 shMod ad S A s H locs → lv_has ls 4 [(0, .ref (ad 0)), (1, .int u1), (2, .int m2), (3, .int m3)] → W p l e (xrm 5) s m args below meth c H locs 0 0 (MQ below (xqi D cy shMod ad r9 S9 A) args s 0 0 A) (F0 m 31 ls []) := by
  intro n
  induction n with
  | zero => intro m2 m3 H locs ls hf; cases hf
  | succ n ih =>
    intro m2 m3 H locs ls hf h hl
    rw [f_X9_reachable_L31] at hf
    refine lv_iload_n E.1 E.2.1 dX9_reachable_31 rfl (lv_at hl 3 rfl) ?_
    refine lv_aload_n E.1 E.2.1 dX9_reachable_32 rfl (lv_at hl 0 rfl) ?_
    refine x_getr E h 0 0 1 rfl rfl rfl (by decide) xinX9 kw1610 dX9_reachable_33 ?_
    refine lv_iconst (v := 0) E.1 E.2.1 dX9_reachable_36 (by decide) ?_
    refine x_iald E h 1 hf rfl dX9_reachable_37 (fun v5 hf => ?_)
    refine x_br hf (lv_icmp_ge (tgt := 67) E.1 E.2.1 dX9_reachable_38 (by decide)) (fun hf => ?_) (fun hf => ?_)
    · exact hk _ _ _ _ _ hf h (lv_sub hl [0, 1, 2, 3] rfl)
    · refine lv_iload_n E.1 E.2.1 dX9_reachable_41 rfl (lv_at hl 2 rfl) ?_
      refine lv_aload_n E.1 E.2.1 dX9_reachable_42 rfl (lv_at hl 0 rfl) ?_
      refine x_getr E h 0 9 8 rfl rfl rfl (by decide) xinX9 kw1619 dX9_reachable_43 ?_
      refine lv_iload_n E.1 E.2.1 dX9_reachable_46 rfl (lv_at hl 3 rfl) ?_
      refine x_iald E h 8 hf rfl dX9_reachable_47 (fun v6 hf => ?_)
      refine lv_iconst (v := (-1)) E.1 E.2.1 dX9_reachable_48 (by decide) ?_
      refine x_brn hf (lv_icmp_ne (tgt := 56) E.1 E.2.1 dX9_reachable_49 (by decide)) (fun hf => ?_) (fun hf => ?_)
      · refine lv_iconst (v := 1) E.1 E.2.1 dX9_reachable_56 (by decide) ?_
        refine lv_iload_n E.1 E.2.1 dX9_reachable_57 rfl (lv_at hl 3 rfl) ?_
        refine lv_ishl E.1 E.2.1 dX9_reachable_58 ?_
        refine lv_ior E.1 E.2.1 dX9_reachable_59 ?_
        refine x_nm hf (fun v7 hf => ?_)
        refine lv_istore_n (lv' := [(2, .int v7), (0, .ref (ad 0)), (1, .int u1), (3, .int m3)]) E.1 E.2.1 dX9_reachable_60 rfl hl (by decide) rfl (fun ls hl => ?_)
        refine x_nv hf (fun v8 e9 hf => ?_)
        refine lv_iinc (v := v8) (lv' := [(3, .int v8), (2, .int v7), (0, .ref (ad 0)), (1, .int u1)]) E.1 E.2.1 dX9_reachable_61 hl (k := 3) rfl (by rw [e9]; rfl) (by decide) rfl (fun ls hl => ?_)
        refine lv_goto (tgt := 31) E.1 E.2.1 dX9_reachable_64 (by decide) ?_
        exact ih _ _ _ _ _ hf h (lv_sub hl [2, 3, 1, 0] rfl)
      · refine lv_iconst (v := 0) E.1 E.2.1 dX9_reachable_52 (by decide) ?_
        refine lv_goto (tgt := 59) E.1 E.2.1 dX9_reachable_53 (by decide) ?_
        refine lv_ior E.1 E.2.1 dX9_reachable_59 ?_
        refine x_nm hf (fun v9 hf => ?_)
        refine lv_istore_n (lv' := [(2, .int v9), (0, .ref (ad 0)), (1, .int u1), (3, .int m3)]) E.1 E.2.1 dX9_reachable_60 rfl hl (by decide) rfl (fun ls hl => ?_)
        refine x_nv hf (fun v10 e9 hf => ?_)
        refine lv_iinc (v := v10) (lv' := [(3, .int v10), (2, .int v9), (0, .ref (ad 0)), (1, .int u1)]) E.1 E.2.1 dX9_reachable_61 hl (k := 3) rfl (by rw [e9]; rfl) (by decide) rfl (fun ls hl => ?_)
        refine lv_goto (tgt := 31) E.1 E.2.1 dX9_reachable_64 (by decide) ?_
        exact ih _ _ _ _ _ hf h (lv_sub hl [2, 3, 1, 0] rfl)
set_option maxHeartbeats 4000000 in
set_option maxRecDepth 100000 in
theorem c_X9_reachable (l : Launch) (D : va_G) (cy : Nat → ClassId) (s00 : State) (ad : Nat → Nat) (S : XS) (p0 : Int32) (r9 : Int32) (S9 : XS) (hf : f_X9_reachable S p0 = some (r9, S9)) : XI l yX9_reachable cX9_reachable 4 (some .int) 5 D cy s00 shMod ad S [.ref (ad 0), .int p0] r9 S9 := by
  refine XI.of (by decide) [(0, .ref (ad 0)), (1, .int p0)] rfl (Nat.le_of_ble_eq_true rfl) (fun p e s m args below meth c A ls E h hl => ?_)
  unfold f_X9_reachable at hf
  refine lv_aload_n E.1 E.2.1 dX9_reachable_0 rfl (lv_at hl 0 rfl) ?_
  refine lv_aload_n E.1 E.2.1 dX9_reachable_1 rfl (lv_at hl 0 rfl) ?_
  refine lv_iload_n E.1 E.2.1 dX9_reachable_2 rfl (lv_at hl 1 rfl) ?_
  refine x_callp E h hl 0 hf (fun r0 hr => c_X9_isCat l D cy s00 _ S p0 r0 hr) m_X9_isCat rfl rfl kw1744 rfl rfl (Nat.le_of_ble_eq_true rfl) ⟨by decide, by decide⟩ ⟨Nat.zero_le _, Nat.zero_le _⟩ dX9_reachable_3 (fun v1 H locs hf h => ?_)
  refine x_brn hf (lv_if_ne (tgt := 13) E.1 E.2.1 dX9_reachable_6 (by decide)) (fun hf => ?_) (fun hf => ?_)
  · refine lv_iconst (v := 0) E.1 E.2.1 dX9_reachable_13 (by decide) ?_
    refine x_calli E h hl 0 hf (fun r0 Sq0 hr => c_X9_throwsOne l D cy s00 _ S 0 r0 Sq0 hr) m_X9_throwsOne rfl rfl kw1697 rfl rfl (Nat.le_of_ble_eq_true rfl) ⟨by decide, by decide⟩ ⟨Nat.zero_le _, Nat.zero_le _⟩ dX9_reachable_14 (fun v2 S3 H locs hf h => ?_)
    refine x_br hf (lv_if_eq (tgt := 22) E.1 E.2.1 dX9_reachable_17 (by decide)) (fun hf => ?_) (fun hf => ?_)
    · refine lv_aload_n E.1 E.2.1 dX9_reachable_22 rfl (lv_at hl 0 rfl) ?_
      refine lv_iload_n E.1 E.2.1 dX9_reachable_23 rfl (lv_at hl 1 rfl) ?_
      refine x_callv E h hl 0 hf (fun r0 hr => c_X9_walks l D cy s00 _ S3 p0 r0 hr) m_X9_walks rfl rfl kw1896 rfl rfl (Nat.le_of_ble_eq_true rfl) ⟨by decide, by decide⟩ ⟨Nat.zero_le _, Nat.zero_le _⟩ dX9_reachable_24 (fun S4 H locs hf h => ?_)
      refine lv_iconst (v := 0) E.1 E.2.1 dX9_reachable_27 (by decide) ?_
      refine lv_istore_n (lv' := [(2, .int 0), (0, .ref (ad 0)), (1, .int p0)]) E.1 E.2.1 dX9_reachable_28 rfl hl (by decide) rfl (fun ls hl => ?_)
      refine lv_iconst (v := 0) E.1 E.2.1 dX9_reachable_29 (by decide) ?_
      refine lv_istore_n (lv' := [(3, .int 0), (2, .int 0), (0, .ref (ad 0)), (1, .int p0)]) E.1 E.2.1 dX9_reachable_30 rfl hl (by decide) rfl (fun ls hl => ?_)
      refine w_X9_reachable_L31 E ?_ _ _ _ _ _ _ hf h (lv_sub hl [2, 3, 1, 0] rfl)
      intro v11 v12 H locs ls hf h hl
      refine lv_iload_n E.1 E.2.1 dX9_reachable_67 rfl (lv_at hl 2 rfl) ?_
      exact x_iret E h hf dX9_reachable_68
    · refine lv_iconst (v := 0) E.1 E.2.1 dX9_reachable_20 (by decide) ?_
      exact x_iret E h hf dX9_reachable_21
  · refine lv_iconst (v := 1) E.1 E.2.1 dX9_reachable_9 (by decide) ?_
    refine lv_goto (tgt := 14) E.1 E.2.1 dX9_reachable_10 (by decide) ?_
    refine x_calli E h hl 0 hf (fun r0 Sq0 hr => c_X9_throwsOne l D cy s00 _ S 1 r0 Sq0 hr) m_X9_throwsOne rfl rfl kw1697 rfl rfl (Nat.le_of_ble_eq_true rfl) ⟨by decide, by decide⟩ ⟨Nat.zero_le _, Nat.zero_le _⟩ dX9_reachable_14 (fun v13 S14 H locs hf h => ?_)
    refine x_br hf (lv_if_eq (tgt := 22) E.1 E.2.1 dX9_reachable_17 (by decide)) (fun hf => ?_) (fun hf => ?_)
    · refine lv_aload_n E.1 E.2.1 dX9_reachable_22 rfl (lv_at hl 0 rfl) ?_
      refine lv_iload_n E.1 E.2.1 dX9_reachable_23 rfl (lv_at hl 1 rfl) ?_
      refine x_callv E h hl 0 hf (fun r0 hr => c_X9_walks l D cy s00 _ S14 p0 r0 hr) m_X9_walks rfl rfl kw1896 rfl rfl (Nat.le_of_ble_eq_true rfl) ⟨by decide, by decide⟩ ⟨Nat.zero_le _, Nat.zero_le _⟩ dX9_reachable_24 (fun S15 H locs hf h => ?_)
      refine lv_iconst (v := 0) E.1 E.2.1 dX9_reachable_27 (by decide) ?_
      refine lv_istore_n (lv' := [(2, .int 0), (0, .ref (ad 0)), (1, .int p0)]) E.1 E.2.1 dX9_reachable_28 rfl hl (by decide) rfl (fun ls hl => ?_)
      refine lv_iconst (v := 0) E.1 E.2.1 dX9_reachable_29 (by decide) ?_
      refine lv_istore_n (lv' := [(3, .int 0), (2, .int 0), (0, .ref (ad 0)), (1, .int p0)]) E.1 E.2.1 dX9_reachable_30 rfl hl (by decide) rfl (fun ls hl => ?_)
      refine w_X9_reachable_L31 E ?_ _ _ _ _ _ _ hf h (lv_sub hl [2, 3, 1, 0] rfl)
      intro v16 v17 H locs ls hf h hl
      refine lv_iload_n E.1 E.2.1 dX9_reachable_67 rfl (lv_at hl 2 rfl) ?_
      exact x_iret E h hf dX9_reachable_68
    · refine lv_iconst (v := 0) E.1 E.2.1 dX9_reachable_20 (by decide) ?_
      exact x_iret E h hf dX9_reachable_21
set_option maxHeartbeats 4000000 in
set_option maxRecDepth 100000 in
theorem c_X9_stepsTo (l : Launch) (D : va_G) (cy : Nat → ClassId) (s00 : State) (ad : Nat → Nat) (S : XS) (p0 p1 : Int32) (r9 : Int32) (S9 : XS) (hf : f_X9_stepsTo S p0 p1 = some (r9, S9)) : XI l yX9_stepsTo cX9_stepsTo 3 (some .int) 5 D cy s00 shMod ad S [.ref (ad 0), .int p0, .int p1] r9 S9 := by
  refine XI.of (by decide) [(0, .ref (ad 0)), (1, .int p0), (2, .int p1)] rfl (Nat.le_of_ble_eq_true rfl) (fun p e s m args below meth c A ls E h hl => ?_)
  unfold f_X9_stepsTo at hf
  refine lv_aload_n E.1 E.2.1 dX9_stepsTo_0 rfl (lv_at hl 0 rfl) ?_
  refine lv_aload_n E.1 E.2.1 dX9_stepsTo_1 rfl (lv_at hl 0 rfl) ?_
  refine lv_iload_n E.1 E.2.1 dX9_stepsTo_2 rfl (lv_at hl 1 rfl) ?_
  refine x_callp E h hl 0 hf (fun r0 hr => c_X9_isCat l D cy s00 _ S p0 r0 hr) m_X9_isCat rfl rfl kw1744 rfl rfl (Nat.le_of_ble_eq_true rfl) ⟨by decide, by decide⟩ ⟨Nat.zero_le _, Nat.zero_le _⟩ dX9_stepsTo_3 (fun v1 H locs hf h => ?_)
  refine x_br hf (lv_if_eq (tgt := 17) E.1 E.2.1 dX9_stepsTo_6 (by decide)) (fun hf => ?_) (fun hf => ?_)
  · refine lv_iconst (v := 1) E.1 E.2.1 dX9_stepsTo_17 (by decide) ?_
    refine lv_goto (tgt := 22) E.1 E.2.1 dX9_stepsTo_18 (by decide) ?_
    refine x_calli E h hl 0 hf (fun r0 Sq0 hr => c_X9_throwsOne l D cy s00 _ S 1 r0 Sq0 hr) m_X9_throwsOne rfl rfl kw1697 rfl rfl (Nat.le_of_ble_eq_true rfl) ⟨by decide, by decide⟩ ⟨Nat.zero_le _, Nat.zero_le _⟩ dX9_stepsTo_22 (fun v2 S3 H locs hf h => ?_)
    refine x_br hf (lv_if_eq (tgt := 30) E.1 E.2.1 dX9_stepsTo_25 (by decide)) (fun hf => ?_) (fun hf => ?_)
    · refine lv_aload_n E.1 E.2.1 dX9_stepsTo_30 rfl (lv_at hl 0 rfl) ?_
      refine lv_iload_n E.1 E.2.1 dX9_stepsTo_31 rfl (lv_at hl 1 rfl) ?_
      refine x_callv E h hl 0 hf (fun r0 hr => c_X9_walks l D cy s00 _ S3 p0 r0 hr) m_X9_walks rfl rfl kw1896 rfl rfl (Nat.le_of_ble_eq_true rfl) ⟨by decide, by decide⟩ ⟨Nat.zero_le _, Nat.zero_le _⟩ dX9_stepsTo_32 (fun S4 H locs hf h => ?_)
      refine lv_aload_n E.1 E.2.1 dX9_stepsTo_35 rfl (lv_at hl 0 rfl) ?_
      refine x_getr E h 0 9 8 rfl rfl rfl (by decide) xinX9 kw1619 dX9_stepsTo_36 ?_
      refine lv_iload_n E.1 E.2.1 dX9_stepsTo_39 rfl (lv_at hl 2 rfl) ?_
      refine x_iald E h 8 hf rfl dX9_stepsTo_40 (fun v5 hf => ?_)
      exact x_iret E h hf dX9_stepsTo_41
    · refine lv_iconst (v := 0) E.1 E.2.1 dX9_stepsTo_28 (by decide) ?_
      exact x_iret E h hf dX9_stepsTo_29
  · refine lv_aload_n E.1 E.2.1 dX9_stepsTo_9 rfl (lv_at hl 0 rfl) ?_
    refine lv_iload_n E.1 E.2.1 dX9_stepsTo_10 rfl (lv_at hl 2 rfl) ?_
    refine x_callp E h hl 0 hf (fun r0 hr => c_X9_isChimney l D cy s00 _ S p1 r0 hr) m_X9_isChimney rfl rfl kw1725 rfl rfl (Nat.le_of_ble_eq_true rfl) ⟨by decide, by decide⟩ ⟨Nat.zero_le _, Nat.zero_le _⟩ dX9_stepsTo_11 (fun v6 H locs hf h => ?_)
    refine x_brn hf (lv_if_ne (tgt := 21) E.1 E.2.1 dX9_stepsTo_14 (by decide)) (fun hf => ?_) (fun hf => ?_)
    · refine lv_iconst (v := 0) E.1 E.2.1 dX9_stepsTo_21 (by decide) ?_
      refine x_calli E h hl 0 hf (fun r0 Sq0 hr => c_X9_throwsOne l D cy s00 _ S 0 r0 Sq0 hr) m_X9_throwsOne rfl rfl kw1697 rfl rfl (Nat.le_of_ble_eq_true rfl) ⟨by decide, by decide⟩ ⟨Nat.zero_le _, Nat.zero_le _⟩ dX9_stepsTo_22 (fun v7 S8 H locs hf h => ?_)
      refine x_br hf (lv_if_eq (tgt := 30) E.1 E.2.1 dX9_stepsTo_25 (by decide)) (fun hf => ?_) (fun hf => ?_)
      · refine lv_aload_n E.1 E.2.1 dX9_stepsTo_30 rfl (lv_at hl 0 rfl) ?_
        refine lv_iload_n E.1 E.2.1 dX9_stepsTo_31 rfl (lv_at hl 1 rfl) ?_
        refine x_callv E h hl 0 hf (fun r0 hr => c_X9_walks l D cy s00 _ S8 p0 r0 hr) m_X9_walks rfl rfl kw1896 rfl rfl (Nat.le_of_ble_eq_true rfl) ⟨by decide, by decide⟩ ⟨Nat.zero_le _, Nat.zero_le _⟩ dX9_stepsTo_32 (fun S9 H locs hf h => ?_)
        refine lv_aload_n E.1 E.2.1 dX9_stepsTo_35 rfl (lv_at hl 0 rfl) ?_
        refine x_getr E h 0 9 8 rfl rfl rfl (by decide) xinX9 kw1619 dX9_stepsTo_36 ?_
        refine lv_iload_n E.1 E.2.1 dX9_stepsTo_39 rfl (lv_at hl 2 rfl) ?_
        refine x_iald E h 8 hf rfl dX9_stepsTo_40 (fun v10 hf => ?_)
        exact x_iret E h hf dX9_stepsTo_41
      · refine lv_iconst (v := 0) E.1 E.2.1 dX9_stepsTo_28 (by decide) ?_
        exact x_iret E h hf dX9_stepsTo_29
    · refine lv_iconst (v := 1) E.1 E.2.1 dX9_stepsTo_17 (by decide) ?_
      refine lv_goto (tgt := 22) E.1 E.2.1 dX9_stepsTo_18 (by decide) ?_
      refine x_calli E h hl 0 hf (fun r0 Sq0 hr => c_X9_throwsOne l D cy s00 _ S 1 r0 Sq0 hr) m_X9_throwsOne rfl rfl kw1697 rfl rfl (Nat.le_of_ble_eq_true rfl) ⟨by decide, by decide⟩ ⟨Nat.zero_le _, Nat.zero_le _⟩ dX9_stepsTo_22 (fun v11 S12 H locs hf h => ?_)
      refine x_br hf (lv_if_eq (tgt := 30) E.1 E.2.1 dX9_stepsTo_25 (by decide)) (fun hf => ?_) (fun hf => ?_)
      · refine lv_aload_n E.1 E.2.1 dX9_stepsTo_30 rfl (lv_at hl 0 rfl) ?_
        refine lv_iload_n E.1 E.2.1 dX9_stepsTo_31 rfl (lv_at hl 1 rfl) ?_
        refine x_callv E h hl 0 hf (fun r0 hr => c_X9_walks l D cy s00 _ S12 p0 r0 hr) m_X9_walks rfl rfl kw1896 rfl rfl (Nat.le_of_ble_eq_true rfl) ⟨by decide, by decide⟩ ⟨Nat.zero_le _, Nat.zero_le _⟩ dX9_stepsTo_32 (fun S13 H locs hf h => ?_)
        refine lv_aload_n E.1 E.2.1 dX9_stepsTo_35 rfl (lv_at hl 0 rfl) ?_
        refine x_getr E h 0 9 8 rfl rfl rfl (by decide) xinX9 kw1619 dX9_stepsTo_36 ?_
        refine lv_iload_n E.1 E.2.1 dX9_stepsTo_39 rfl (lv_at hl 2 rfl) ?_
        refine x_iald E h 8 hf rfl dX9_stepsTo_40 (fun v14 hf => ?_)
        exact x_iret E h hf dX9_stepsTo_41
      · refine lv_iconst (v := 0) E.1 E.2.1 dX9_stepsTo_28 (by decide) ?_
        exact x_iret E h hf dX9_stepsTo_29
set_option maxHeartbeats 4000000 in
set_option maxRecDepth 100000 in
theorem w_X9_openGutters_L26 {p : Program} {l : Launch} {e : Env} {s : State} {m : MethodId} {args : Array Value} {below : List Frame} {meth : Method} {c : Code} {D : va_G} {cy : Nat → ClassId} {s00 : State} {ad : Nat → Nat} {A : Nat → Prop}  {r9 : Int32} {S9 : XS} {u1 : Int32} {S : XS} {K : Int32 → Int32 → Option (Int32 × XS)} (E : XE p s m args meth c cX9_openGutters 4 RX9 (some .int) D cy s00) (hk : ∀ (m2 m3 : Int32) (H : Heap) (locs : List Loc) (ls : Array Slot), K m2 m3 = some (r9, S9) → XH D cy s00 shMod ad S A s H locs → lv_has ls 4 [(0, .ref (ad 0)), (1, .int u1), (2, .int m2), (3, .int m3)] → W p l e (xrm 4) s m args below meth c H locs 0 0 (MQ below (xqi D cy shMod ad r9 S9 A) args s 0 0 A) (F0 m 61 ls [])) :
    ∀ (n : Nat) (m2 m3 : Int32) (H : Heap) (locs : List Loc) (ls : Array Slot), f_X9_openGutters_L26 K S u1 n m2 m3 = some (r9, S9) → XH D cy s00 shMod ad S A s H locs → lv_has ls 4 [(0, .ref (ad 0)), (1, .int u1), (2, .int m2), (3, .int m3)] → W p l e (xrm 4) s m args below meth c H locs 0 0 (MQ below (xqi D cy shMod ad r9 S9 A) args s 0 0 A) (F0 m 26 ls []) := by
  intro n
  induction n with
  | zero => intro m2 m3 H locs ls hf; cases hf
  | succ n ih =>
    intro m2 m3 H locs ls hf h hl
    rw [f_X9_openGutters_L26] at hf
    refine lv_iload_n E.1 E.2.1 dX9_openGutters_26 rfl (lv_at hl 3 rfl) ?_
    refine lv_aload_n E.1 E.2.1 dX9_openGutters_27 rfl (lv_at hl 0 rfl) ?_
    refine x_getr E h 0 0 1 rfl rfl rfl (by decide) xinX9 kw1610 dX9_openGutters_28 ?_
    refine lv_iconst (v := 1) E.1 E.2.1 dX9_openGutters_31 (by decide) ?_
    refine x_iald E h 1 hf rfl dX9_openGutters_32 (fun v4 hf => ?_)
    refine x_br hf (lv_icmp_ge (tgt := 61) E.1 E.2.1 dX9_openGutters_33 (by decide)) (fun hf => ?_) (fun hf => ?_)
    · exact hk _ _ _ _ _ hf h (lv_sub hl [0, 1, 2, 3] rfl)
    · refine lv_iload_n E.1 E.2.1 dX9_openGutters_36 rfl (lv_at hl 2 rfl) ?_
      refine lv_aload_n E.1 E.2.1 dX9_openGutters_37 rfl (lv_at hl 0 rfl) ?_
      refine lv_iload_n E.1 E.2.1 dX9_openGutters_38 rfl (lv_at hl 1 rfl) ?_
      refine lv_iload_n E.1 E.2.1 dX9_openGutters_39 rfl (lv_at hl 3 rfl) ?_
      refine x_callp E h hl 0 hf (fun r0 hr => c_X9_whyStays l D cy s00 _ S u1 m3 r0 hr) m_X9_whyStays rfl rfl kw1449 rfl rfl (Nat.le_of_ble_eq_true rfl) ⟨by decide, by decide⟩ ⟨Nat.zero_le _, Nat.zero_le _⟩ dX9_openGutters_40 (fun v5 H locs hf h => ?_)
      refine x_brn hf (lv_if_ne (tgt := 52) E.1 E.2.1 dX9_openGutters_43 (by decide)) (fun hf => ?_) (fun hf => ?_)
      · refine lv_iconst (v := 0) E.1 E.2.1 dX9_openGutters_52 (by decide) ?_
        refine lv_ior E.1 E.2.1 dX9_openGutters_53 ?_
        refine x_nm hf (fun v6 hf => ?_)
        refine lv_istore_n (lv' := [(2, .int v6), (0, .ref (ad 0)), (1, .int u1), (3, .int m3)]) E.1 E.2.1 dX9_openGutters_54 rfl hl (by decide) rfl (fun ls hl => ?_)
        refine x_nv hf (fun v7 e9 hf => ?_)
        refine lv_iinc (v := v7) (lv' := [(3, .int v7), (2, .int v6), (0, .ref (ad 0)), (1, .int u1)]) E.1 E.2.1 dX9_openGutters_55 hl (k := 3) rfl (by rw [e9]; rfl) (by decide) rfl (fun ls hl => ?_)
        refine lv_goto (tgt := 26) E.1 E.2.1 dX9_openGutters_58 (by decide) ?_
        exact ih _ _ _ _ _ hf h (lv_sub hl [2, 3, 1, 0] rfl)
      · refine lv_iconst (v := 1) E.1 E.2.1 dX9_openGutters_46 (by decide) ?_
        refine lv_iload_n E.1 E.2.1 dX9_openGutters_47 rfl (lv_at hl 3 rfl) ?_
        refine lv_ishl E.1 E.2.1 dX9_openGutters_48 ?_
        refine lv_goto (tgt := 53) E.1 E.2.1 dX9_openGutters_49 (by decide) ?_
        refine lv_ior E.1 E.2.1 dX9_openGutters_53 ?_
        refine x_nm hf (fun v8 hf => ?_)
        refine lv_istore_n (lv' := [(2, .int v8), (0, .ref (ad 0)), (1, .int u1), (3, .int m3)]) E.1 E.2.1 dX9_openGutters_54 rfl hl (by decide) rfl (fun ls hl => ?_)
        refine x_nv hf (fun v9 e9 hf => ?_)
        refine lv_iinc (v := v9) (lv' := [(3, .int v9), (2, .int v8), (0, .ref (ad 0)), (1, .int u1)]) E.1 E.2.1 dX9_openGutters_55 hl (k := 3) rfl (by rw [e9]; rfl) (by decide) rfl (fun ls hl => ?_)
        refine lv_goto (tgt := 26) E.1 E.2.1 dX9_openGutters_58 (by decide) ?_
        exact ih _ _ _ _ _ hf h (lv_sub hl [2, 3, 1, 0] rfl)
set_option maxHeartbeats 4000000 in
set_option maxRecDepth 100000 in
theorem c_X9_openGutters (l : Launch) (D : va_G) (cy : Nat → ClassId) (s00 : State) (ad : Nat → Nat) (S : XS) (p0 : Int32) (r9 : Int32) (S9 : XS) (hf : f_X9_openGutters S p0 = some (r9, S9)) : XI l yX9_openGutters cX9_openGutters 4 (some .int) 4 D cy s00 shMod ad S [.ref (ad 0), .int p0] r9 S9 := by
  refine XI.of (by decide) [(0, .ref (ad 0)), (1, .int p0)] rfl (Nat.le_of_ble_eq_true rfl) (fun p e s m args below meth c A ls E h hl => ?_)
  unfold f_X9_openGutters at hf
  refine lv_aload_n E.1 E.2.1 dX9_openGutters_0 rfl (lv_at hl 0 rfl) ?_
  refine lv_aload_n E.1 E.2.1 dX9_openGutters_1 rfl (lv_at hl 0 rfl) ?_
  refine lv_iload_n E.1 E.2.1 dX9_openGutters_2 rfl (lv_at hl 1 rfl) ?_
  refine x_callp E h hl 0 hf (fun r0 hr => c_X9_isCat l D cy s00 _ S p0 r0 hr) m_X9_isCat rfl rfl kw1744 rfl rfl (Nat.le_of_ble_eq_true rfl) ⟨by decide, by decide⟩ ⟨Nat.zero_le _, Nat.zero_le _⟩ dX9_openGutters_3 (fun v1 H locs hf h => ?_)
  refine x_brn hf (lv_if_ne (tgt := 13) E.1 E.2.1 dX9_openGutters_6 (by decide)) (fun hf => ?_) (fun hf => ?_)
  · refine lv_iconst (v := 0) E.1 E.2.1 dX9_openGutters_13 (by decide) ?_
    refine x_calli E h hl 0 hf (fun r0 Sq0 hr => c_X9_throwsOne l D cy s00 _ S 0 r0 Sq0 hr) m_X9_throwsOne rfl rfl kw1697 rfl rfl (Nat.le_of_ble_eq_true rfl) ⟨by decide, by decide⟩ ⟨Nat.zero_le _, Nat.zero_le _⟩ dX9_openGutters_14 (fun v2 S3 H locs hf h => ?_)
    refine x_br hf (lv_if_eq (tgt := 22) E.1 E.2.1 dX9_openGutters_17 (by decide)) (fun hf => ?_) (fun hf => ?_)
    · refine lv_iconst (v := 0) E.1 E.2.1 dX9_openGutters_22 (by decide) ?_
      refine lv_istore_n (lv' := [(2, .int 0), (0, .ref (ad 0)), (1, .int p0)]) E.1 E.2.1 dX9_openGutters_23 rfl hl (by decide) rfl (fun ls hl => ?_)
      refine lv_iconst (v := 0) E.1 E.2.1 dX9_openGutters_24 (by decide) ?_
      refine lv_istore_n (lv' := [(3, .int 0), (2, .int 0), (0, .ref (ad 0)), (1, .int p0)]) E.1 E.2.1 dX9_openGutters_25 rfl hl (by decide) rfl (fun ls hl => ?_)
      refine w_X9_openGutters_L26 E ?_ _ _ _ _ _ _ hf h (lv_sub hl [2, 3, 1, 0] rfl)
      intro v10 v11 H locs ls hf h hl
      refine lv_iload_n E.1 E.2.1 dX9_openGutters_61 rfl (lv_at hl 2 rfl) ?_
      exact x_iret E h hf dX9_openGutters_62
    · refine lv_iconst (v := 0) E.1 E.2.1 dX9_openGutters_20 (by decide) ?_
      exact x_iret E h hf dX9_openGutters_21
  · refine lv_iconst (v := 1) E.1 E.2.1 dX9_openGutters_9 (by decide) ?_
    refine lv_goto (tgt := 14) E.1 E.2.1 dX9_openGutters_10 (by decide) ?_
    refine x_calli E h hl 0 hf (fun r0 Sq0 hr => c_X9_throwsOne l D cy s00 _ S 1 r0 Sq0 hr) m_X9_throwsOne rfl rfl kw1697 rfl rfl (Nat.le_of_ble_eq_true rfl) ⟨by decide, by decide⟩ ⟨Nat.zero_le _, Nat.zero_le _⟩ dX9_openGutters_14 (fun v12 S13 H locs hf h => ?_)
    refine x_br hf (lv_if_eq (tgt := 22) E.1 E.2.1 dX9_openGutters_17 (by decide)) (fun hf => ?_) (fun hf => ?_)
    · refine lv_iconst (v := 0) E.1 E.2.1 dX9_openGutters_22 (by decide) ?_
      refine lv_istore_n (lv' := [(2, .int 0), (0, .ref (ad 0)), (1, .int p0)]) E.1 E.2.1 dX9_openGutters_23 rfl hl (by decide) rfl (fun ls hl => ?_)
      refine lv_iconst (v := 0) E.1 E.2.1 dX9_openGutters_24 (by decide) ?_
      refine lv_istore_n (lv' := [(3, .int 0), (2, .int 0), (0, .ref (ad 0)), (1, .int p0)]) E.1 E.2.1 dX9_openGutters_25 rfl hl (by decide) rfl (fun ls hl => ?_)
      refine w_X9_openGutters_L26 E ?_ _ _ _ _ _ _ hf h (lv_sub hl [2, 3, 1, 0] rfl)
      intro v14 v15 H locs ls hf h hl
      refine lv_iload_n E.1 E.2.1 dX9_openGutters_61 rfl (lv_at hl 2 rfl) ?_
      exact x_iret E h hf dX9_openGutters_62
    · refine lv_iconst (v := 0) E.1 E.2.1 dX9_openGutters_20 (by decide) ?_
      exact x_iret E h hf dX9_openGutters_21
set_option maxHeartbeats 4000000 in
set_option maxRecDepth 100000 in
theorem c_X9_whyNoStep (l : Launch) (D : va_G) (cy : Nat → ClassId) (s00 : State) (ad : Nat → Nat) (S : XS) (p0 p1 : Int32) (r9 : Int32) (S9 : XS) (hf : f_X9_whyNoStep S p0 p1 = some (r9, S9)) : XI l yX9_whyNoStep cX9_whyNoStep 3 (some .int) 4 D cy s00 shMod ad S [.ref (ad 0), .int p0, .int p1] r9 S9 := by
  refine XI.of (by decide) [(0, .ref (ad 0)), (1, .int p0), (2, .int p1)] rfl (Nat.le_of_ble_eq_true rfl) (fun p e s m args below meth c A ls E h hl => ?_)
  unfold f_X9_whyNoStep at hf
  refine lv_aload_n E.1 E.2.1 dX9_whyNoStep_0 rfl (lv_at hl 0 rfl) ?_
  refine lv_aload_n E.1 E.2.1 dX9_whyNoStep_1 rfl (lv_at hl 0 rfl) ?_
  refine lv_iload_n E.1 E.2.1 dX9_whyNoStep_2 rfl (lv_at hl 1 rfl) ?_
  refine x_callp E h hl 0 hf (fun r0 hr => c_X9_isCat l D cy s00 _ S p0 r0 hr) m_X9_isCat rfl rfl kw1744 rfl rfl (Nat.le_of_ble_eq_true rfl) ⟨by decide, by decide⟩ ⟨Nat.zero_le _, Nat.zero_le _⟩ dX9_whyNoStep_3 (fun v1 H locs hf h => ?_)
  refine x_br hf (lv_if_eq (tgt := 17) E.1 E.2.1 dX9_whyNoStep_6 (by decide)) (fun hf => ?_) (fun hf => ?_)
  · refine lv_iconst (v := 1) E.1 E.2.1 dX9_whyNoStep_17 (by decide) ?_
    refine lv_goto (tgt := 22) E.1 E.2.1 dX9_whyNoStep_18 (by decide) ?_
    refine x_calli E h hl 0 hf (fun r0 Sq0 hr => c_X9_throwsOne l D cy s00 _ S 1 r0 Sq0 hr) m_X9_throwsOne rfl rfl kw1697 rfl rfl (Nat.le_of_ble_eq_true rfl) ⟨by decide, by decide⟩ ⟨Nat.zero_le _, Nat.zero_le _⟩ dX9_whyNoStep_22 (fun v2 S3 H locs hf h => ?_)
    refine x_br hf (lv_if_eq (tgt := 32) E.1 E.2.1 dX9_whyNoStep_25 (by decide)) (fun hf => ?_) (fun hf => ?_)
    · refine lv_aload_n E.1 E.2.1 dX9_whyNoStep_32 rfl (lv_at hl 0 rfl) ?_
      refine lv_iload_n E.1 E.2.1 dX9_whyNoStep_33 rfl (lv_at hl 1 rfl) ?_
      refine lv_iload_n E.1 E.2.1 dX9_whyNoStep_34 rfl (lv_at hl 2 rfl) ?_
      refine x_callp E h hl 0 hf (fun r0 hr => c_X9_whyStays l D cy s00 _ S3 p0 p1 r0 hr) m_X9_whyStays rfl rfl kw1449 rfl rfl (Nat.le_of_ble_eq_true rfl) ⟨by decide, by decide⟩ ⟨Nat.zero_le _, Nat.zero_le _⟩ dX9_whyNoStep_35 (fun v4 H locs hf h => ?_)
      exact x_iret E h hf dX9_whyNoStep_38
    · refine lv_iconst (v := 0) E.1 E.2.1 dX9_whyNoStep_28 (by decide) ?_
      refine lv_goto (tgt := 38) E.1 E.2.1 dX9_whyNoStep_29 (by decide) ?_
      exact x_iret E h hf dX9_whyNoStep_38
  · refine lv_aload_n E.1 E.2.1 dX9_whyNoStep_9 rfl (lv_at hl 0 rfl) ?_
    refine lv_iload_n E.1 E.2.1 dX9_whyNoStep_10 rfl (lv_at hl 2 rfl) ?_
    refine x_callp E h hl 0 hf (fun r0 hr => c_X9_isGutter l D cy s00 _ S p1 r0 hr) m_X9_isGutter rfl rfl kw1748 rfl rfl (Nat.le_of_ble_eq_true rfl) ⟨by decide, by decide⟩ ⟨Nat.zero_le _, Nat.zero_le _⟩ dX9_whyNoStep_11 (fun v5 H locs hf h => ?_)
    refine x_brn hf (lv_if_ne (tgt := 21) E.1 E.2.1 dX9_whyNoStep_14 (by decide)) (fun hf => ?_) (fun hf => ?_)
    · refine lv_iconst (v := 0) E.1 E.2.1 dX9_whyNoStep_21 (by decide) ?_
      refine x_calli E h hl 0 hf (fun r0 Sq0 hr => c_X9_throwsOne l D cy s00 _ S 0 r0 Sq0 hr) m_X9_throwsOne rfl rfl kw1697 rfl rfl (Nat.le_of_ble_eq_true rfl) ⟨by decide, by decide⟩ ⟨Nat.zero_le _, Nat.zero_le _⟩ dX9_whyNoStep_22 (fun v6 S7 H locs hf h => ?_)
      refine x_br hf (lv_if_eq (tgt := 32) E.1 E.2.1 dX9_whyNoStep_25 (by decide)) (fun hf => ?_) (fun hf => ?_)
      · refine lv_aload_n E.1 E.2.1 dX9_whyNoStep_32 rfl (lv_at hl 0 rfl) ?_
        refine lv_iload_n E.1 E.2.1 dX9_whyNoStep_33 rfl (lv_at hl 1 rfl) ?_
        refine lv_iload_n E.1 E.2.1 dX9_whyNoStep_34 rfl (lv_at hl 2 rfl) ?_
        refine x_callp E h hl 0 hf (fun r0 hr => c_X9_whyStays l D cy s00 _ S7 p0 p1 r0 hr) m_X9_whyStays rfl rfl kw1449 rfl rfl (Nat.le_of_ble_eq_true rfl) ⟨by decide, by decide⟩ ⟨Nat.zero_le _, Nat.zero_le _⟩ dX9_whyNoStep_35 (fun v8 H locs hf h => ?_)
        exact x_iret E h hf dX9_whyNoStep_38
      · refine lv_iconst (v := 0) E.1 E.2.1 dX9_whyNoStep_28 (by decide) ?_
        refine lv_goto (tgt := 38) E.1 E.2.1 dX9_whyNoStep_29 (by decide) ?_
        exact x_iret E h hf dX9_whyNoStep_38
    · refine lv_iconst (v := 1) E.1 E.2.1 dX9_whyNoStep_17 (by decide) ?_
      refine lv_goto (tgt := 22) E.1 E.2.1 dX9_whyNoStep_18 (by decide) ?_
      refine x_calli E h hl 0 hf (fun r0 Sq0 hr => c_X9_throwsOne l D cy s00 _ S 1 r0 Sq0 hr) m_X9_throwsOne rfl rfl kw1697 rfl rfl (Nat.le_of_ble_eq_true rfl) ⟨by decide, by decide⟩ ⟨Nat.zero_le _, Nat.zero_le _⟩ dX9_whyNoStep_22 (fun v9 S10 H locs hf h => ?_)
      refine x_br hf (lv_if_eq (tgt := 32) E.1 E.2.1 dX9_whyNoStep_25 (by decide)) (fun hf => ?_) (fun hf => ?_)
      · refine lv_aload_n E.1 E.2.1 dX9_whyNoStep_32 rfl (lv_at hl 0 rfl) ?_
        refine lv_iload_n E.1 E.2.1 dX9_whyNoStep_33 rfl (lv_at hl 1 rfl) ?_
        refine lv_iload_n E.1 E.2.1 dX9_whyNoStep_34 rfl (lv_at hl 2 rfl) ?_
        refine x_callp E h hl 0 hf (fun r0 hr => c_X9_whyStays l D cy s00 _ S10 p0 p1 r0 hr) m_X9_whyStays rfl rfl kw1449 rfl rfl (Nat.le_of_ble_eq_true rfl) ⟨by decide, by decide⟩ ⟨Nat.zero_le _, Nat.zero_le _⟩ dX9_whyNoStep_35 (fun v11 H locs hf h => ?_)
        exact x_iret E h hf dX9_whyNoStep_38
      · refine lv_iconst (v := 0) E.1 E.2.1 dX9_whyNoStep_28 (by decide) ?_
        refine lv_goto (tgt := 38) E.1 E.2.1 dX9_whyNoStep_29 (by decide) ?_
        exact x_iret E h hf dX9_whyNoStep_38
set_option maxHeartbeats 4000000 in
set_option maxRecDepth 100000 in
theorem c_X9_whyNoClaim (l : Launch) (D : va_G) (cy : Nat → ClassId) (s00 : State) (ad : Nat → Nat) (S : XS) (p0 : Int32) (r9 : Int32) (S9 : XS) (hf : f_X9_whyNoClaim S p0 = some (r9, S9)) : XI l yX9_whyNoClaim cX9_whyNoClaim 2 (some .int) 3 D cy s00 shMod ad S [.ref (ad 0), .int p0] r9 S9 := by
  refine XI.of (by decide) [(0, .ref (ad 0)), (1, .int p0)] rfl (Nat.le_of_ble_eq_true rfl) (fun p e s m args below meth c A ls E h hl => ?_)
  unfold f_X9_whyNoClaim at hf
  refine lv_aload_n E.1 E.2.1 dX9_whyNoClaim_0 rfl (lv_at hl 0 rfl) ?_
  refine lv_aload_n E.1 E.2.1 dX9_whyNoClaim_1 rfl (lv_at hl 0 rfl) ?_
  refine lv_iload_n E.1 E.2.1 dX9_whyNoClaim_2 rfl (lv_at hl 1 rfl) ?_
  refine x_callp E h hl 0 hf (fun r0 hr => c_X9_isCat l D cy s00 _ S p0 r0 hr) m_X9_isCat rfl rfl kw1744 rfl rfl (Nat.le_of_ble_eq_true rfl) ⟨by decide, by decide⟩ ⟨Nat.zero_le _, Nat.zero_le _⟩ dX9_whyNoClaim_3 (fun v1 H locs hf h => ?_)
  refine x_brn hf (lv_if_ne (tgt := 13) E.1 E.2.1 dX9_whyNoClaim_6 (by decide)) (fun hf => ?_) (fun hf => ?_)
  · refine lv_iconst (v := 0) E.1 E.2.1 dX9_whyNoClaim_13 (by decide) ?_
    refine x_calli E h hl 0 hf (fun r0 Sq0 hr => c_X9_throwsOne l D cy s00 _ S 0 r0 Sq0 hr) m_X9_throwsOne rfl rfl kw1697 rfl rfl (Nat.le_of_ble_eq_true rfl) ⟨by decide, by decide⟩ ⟨Nat.zero_le _, Nat.zero_le _⟩ dX9_whyNoClaim_14 (fun v2 S3 H locs hf h => ?_)
    refine x_br hf (lv_if_eq (tgt := 24) E.1 E.2.1 dX9_whyNoClaim_17 (by decide)) (fun hf => ?_) (fun hf => ?_)
    · refine lv_aload_n E.1 E.2.1 dX9_whyNoClaim_24 rfl (lv_at hl 0 rfl) ?_
      refine lv_iload_n E.1 E.2.1 dX9_whyNoClaim_25 rfl (lv_at hl 1 rfl) ?_
      refine x_callp E h hl 0 hf (fun r0 hr => c_X9_whyLeaves l D cy s00 _ S3 p0 r0 hr) m_X9_whyLeaves rfl rfl kw1482 rfl rfl (Nat.le_of_ble_eq_true rfl) ⟨by decide, by decide⟩ ⟨Nat.zero_le _, Nat.zero_le _⟩ dX9_whyNoClaim_26 (fun v4 H locs hf h => ?_)
      exact x_iret E h hf dX9_whyNoClaim_29
    · refine lv_iconst (v := 0) E.1 E.2.1 dX9_whyNoClaim_20 (by decide) ?_
      refine lv_goto (tgt := 29) E.1 E.2.1 dX9_whyNoClaim_21 (by decide) ?_
      exact x_iret E h hf dX9_whyNoClaim_29
  · refine lv_iconst (v := 1) E.1 E.2.1 dX9_whyNoClaim_9 (by decide) ?_
    refine lv_goto (tgt := 14) E.1 E.2.1 dX9_whyNoClaim_10 (by decide) ?_
    refine x_calli E h hl 0 hf (fun r0 Sq0 hr => c_X9_throwsOne l D cy s00 _ S 1 r0 Sq0 hr) m_X9_throwsOne rfl rfl kw1697 rfl rfl (Nat.le_of_ble_eq_true rfl) ⟨by decide, by decide⟩ ⟨Nat.zero_le _, Nat.zero_le _⟩ dX9_whyNoClaim_14 (fun v5 S6 H locs hf h => ?_)
    refine x_br hf (lv_if_eq (tgt := 24) E.1 E.2.1 dX9_whyNoClaim_17 (by decide)) (fun hf => ?_) (fun hf => ?_)
    · refine lv_aload_n E.1 E.2.1 dX9_whyNoClaim_24 rfl (lv_at hl 0 rfl) ?_
      refine lv_iload_n E.1 E.2.1 dX9_whyNoClaim_25 rfl (lv_at hl 1 rfl) ?_
      refine x_callp E h hl 0 hf (fun r0 hr => c_X9_whyLeaves l D cy s00 _ S6 p0 r0 hr) m_X9_whyLeaves rfl rfl kw1482 rfl rfl (Nat.le_of_ble_eq_true rfl) ⟨by decide, by decide⟩ ⟨Nat.zero_le _, Nat.zero_le _⟩ dX9_whyNoClaim_26 (fun v7 H locs hf h => ?_)
      exact x_iret E h hf dX9_whyNoClaim_29
    · refine lv_iconst (v := 0) E.1 E.2.1 dX9_whyNoClaim_20 (by decide) ?_
      refine lv_goto (tgt := 29) E.1 E.2.1 dX9_whyNoClaim_21 (by decide) ?_
      exact x_iret E h hf dX9_whyNoClaim_29
set_option maxHeartbeats 4000000 in
set_option maxRecDepth 100000 in
theorem c_X9_whyNoChase (l : Launch) (D : va_G) (cy : Nat → ClassId) (s00 : State) (ad : Nat → Nat) (S : XS) (p0 p1 : Int32) (r9 : Int32) (S9 : XS) (hf : f_X9_whyNoChase S p0 p1 = some (r9, S9)) : XI l yX9_whyNoChase cX9_whyNoChase 3 (some .int) 4 D cy s00 shMod ad S [.ref (ad 0), .int p0, .int p1] r9 S9 := by
  refine XI.of (by decide) [(0, .ref (ad 0)), (1, .int p0), (2, .int p1)] rfl (Nat.le_of_ble_eq_true rfl) (fun p e s m args below meth c A ls E h hl => ?_)
  unfold f_X9_whyNoChase at hf
  refine lv_aload_n E.1 E.2.1 dX9_whyNoChase_0 rfl (lv_at hl 0 rfl) ?_
  refine lv_aload_n E.1 E.2.1 dX9_whyNoChase_1 rfl (lv_at hl 0 rfl) ?_
  refine lv_iload_n E.1 E.2.1 dX9_whyNoChase_2 rfl (lv_at hl 1 rfl) ?_
  refine lv_iload_n E.1 E.2.1 dX9_whyNoChase_3 rfl (lv_at hl 2 rfl) ?_
  refine x_callp E h hl 0 hf (fun r0 hr => c_X9_areCats l D cy s00 _ S p0 p1 r0 hr) m_X9_areCats rfl rfl kw1764 rfl rfl (Nat.le_of_ble_eq_true rfl) ⟨by decide, by decide⟩ ⟨Nat.zero_le _, Nat.zero_le _⟩ dX9_whyNoChase_4 (fun v1 H locs hf h => ?_)
  refine x_brn hf (lv_if_ne (tgt := 14) E.1 E.2.1 dX9_whyNoChase_7 (by decide)) (fun hf => ?_) (fun hf => ?_)
  · refine lv_iconst (v := 0) E.1 E.2.1 dX9_whyNoChase_14 (by decide) ?_
    refine lv_iload_n E.1 E.2.1 dX9_whyNoChase_15 rfl (lv_at hl 1 rfl) ?_
    refine lv_iload_n E.1 E.2.1 dX9_whyNoChase_16 rfl (lv_at hl 2 rfl) ?_
    refine x_brn hf (lv_icmp_ne (tgt := 24) E.1 E.2.1 dX9_whyNoChase_17 (by decide)) (fun hf => ?_) (fun hf => ?_)
    · refine lv_iconst (v := 0) E.1 E.2.1 dX9_whyNoChase_24 (by decide) ?_
      refine x_calli E h hl 0 hf (fun r0 Sq0 hr => c_X9_throwsOne_ l D cy s00 _ S 0 0 r0 Sq0 hr) m_X9_throwsOne_ rfl rfl kw1717 rfl rfl (Nat.le_of_ble_eq_true rfl) ⟨by decide, by decide⟩ ⟨Nat.zero_le _, Nat.zero_le _⟩ dX9_whyNoChase_25 (fun v2 S3 H locs hf h => ?_)
      refine x_br hf (lv_if_eq (tgt := 35) E.1 E.2.1 dX9_whyNoChase_28 (by decide)) (fun hf => ?_) (fun hf => ?_)
      · refine lv_aload_n E.1 E.2.1 dX9_whyNoChase_35 rfl (lv_at hl 0 rfl) ?_
        refine lv_iload_n E.1 E.2.1 dX9_whyNoChase_36 rfl (lv_at hl 1 rfl) ?_
        refine lv_iload_n E.1 E.2.1 dX9_whyNoChase_37 rfl (lv_at hl 2 rfl) ?_
        refine x_callp E h hl 0 hf (fun r0 hr => c_X9_whySpares l D cy s00 _ S3 p0 p1 r0 hr) m_X9_whySpares rfl rfl kw1506 rfl rfl (Nat.le_of_ble_eq_true rfl) ⟨by decide, by decide⟩ ⟨Nat.zero_le _, Nat.zero_le _⟩ dX9_whyNoChase_38 (fun v4 H locs hf h => ?_)
        exact x_iret E h hf dX9_whyNoChase_41
      · refine lv_iconst (v := 0) E.1 E.2.1 dX9_whyNoChase_31 (by decide) ?_
        refine lv_goto (tgt := 41) E.1 E.2.1 dX9_whyNoChase_32 (by decide) ?_
        exact x_iret E h hf dX9_whyNoChase_41
    · refine lv_iconst (v := 1) E.1 E.2.1 dX9_whyNoChase_20 (by decide) ?_
      refine lv_goto (tgt := 25) E.1 E.2.1 dX9_whyNoChase_21 (by decide) ?_
      refine x_calli E h hl 0 hf (fun r0 Sq0 hr => c_X9_throwsOne_ l D cy s00 _ S 0 1 r0 Sq0 hr) m_X9_throwsOne_ rfl rfl kw1717 rfl rfl (Nat.le_of_ble_eq_true rfl) ⟨by decide, by decide⟩ ⟨Nat.zero_le _, Nat.zero_le _⟩ dX9_whyNoChase_25 (fun v5 S6 H locs hf h => ?_)
      refine x_br hf (lv_if_eq (tgt := 35) E.1 E.2.1 dX9_whyNoChase_28 (by decide)) (fun hf => ?_) (fun hf => ?_)
      · refine lv_aload_n E.1 E.2.1 dX9_whyNoChase_35 rfl (lv_at hl 0 rfl) ?_
        refine lv_iload_n E.1 E.2.1 dX9_whyNoChase_36 rfl (lv_at hl 1 rfl) ?_
        refine lv_iload_n E.1 E.2.1 dX9_whyNoChase_37 rfl (lv_at hl 2 rfl) ?_
        refine x_callp E h hl 0 hf (fun r0 hr => c_X9_whySpares l D cy s00 _ S6 p0 p1 r0 hr) m_X9_whySpares rfl rfl kw1506 rfl rfl (Nat.le_of_ble_eq_true rfl) ⟨by decide, by decide⟩ ⟨Nat.zero_le _, Nat.zero_le _⟩ dX9_whyNoChase_38 (fun v7 H locs hf h => ?_)
        exact x_iret E h hf dX9_whyNoChase_41
      · refine lv_iconst (v := 0) E.1 E.2.1 dX9_whyNoChase_31 (by decide) ?_
        refine lv_goto (tgt := 41) E.1 E.2.1 dX9_whyNoChase_32 (by decide) ?_
        exact x_iret E h hf dX9_whyNoChase_41
  · refine lv_iconst (v := 1) E.1 E.2.1 dX9_whyNoChase_10 (by decide) ?_
    refine lv_goto (tgt := 15) E.1 E.2.1 dX9_whyNoChase_11 (by decide) ?_
    refine lv_iload_n E.1 E.2.1 dX9_whyNoChase_15 rfl (lv_at hl 1 rfl) ?_
    refine lv_iload_n E.1 E.2.1 dX9_whyNoChase_16 rfl (lv_at hl 2 rfl) ?_
    refine x_brn hf (lv_icmp_ne (tgt := 24) E.1 E.2.1 dX9_whyNoChase_17 (by decide)) (fun hf => ?_) (fun hf => ?_)
    · refine lv_iconst (v := 0) E.1 E.2.1 dX9_whyNoChase_24 (by decide) ?_
      refine x_calli E h hl 0 hf (fun r0 Sq0 hr => c_X9_throwsOne_ l D cy s00 _ S 1 0 r0 Sq0 hr) m_X9_throwsOne_ rfl rfl kw1717 rfl rfl (Nat.le_of_ble_eq_true rfl) ⟨by decide, by decide⟩ ⟨Nat.zero_le _, Nat.zero_le _⟩ dX9_whyNoChase_25 (fun v8 S9 H locs hf h => ?_)
      refine x_br hf (lv_if_eq (tgt := 35) E.1 E.2.1 dX9_whyNoChase_28 (by decide)) (fun hf => ?_) (fun hf => ?_)
      · refine lv_aload_n E.1 E.2.1 dX9_whyNoChase_35 rfl (lv_at hl 0 rfl) ?_
        refine lv_iload_n E.1 E.2.1 dX9_whyNoChase_36 rfl (lv_at hl 1 rfl) ?_
        refine lv_iload_n E.1 E.2.1 dX9_whyNoChase_37 rfl (lv_at hl 2 rfl) ?_
        refine x_callp E h hl 0 hf (fun r0 hr => c_X9_whySpares l D cy s00 _ S9 p0 p1 r0 hr) m_X9_whySpares rfl rfl kw1506 rfl rfl (Nat.le_of_ble_eq_true rfl) ⟨by decide, by decide⟩ ⟨Nat.zero_le _, Nat.zero_le _⟩ dX9_whyNoChase_38 (fun v10 H locs hf h => ?_)
        exact x_iret E h hf dX9_whyNoChase_41
      · refine lv_iconst (v := 0) E.1 E.2.1 dX9_whyNoChase_31 (by decide) ?_
        refine lv_goto (tgt := 41) E.1 E.2.1 dX9_whyNoChase_32 (by decide) ?_
        exact x_iret E h hf dX9_whyNoChase_41
    · refine lv_iconst (v := 1) E.1 E.2.1 dX9_whyNoChase_20 (by decide) ?_
      refine lv_goto (tgt := 25) E.1 E.2.1 dX9_whyNoChase_21 (by decide) ?_
      refine x_calli E h hl 0 hf (fun r0 Sq0 hr => c_X9_throwsOne_ l D cy s00 _ S 1 1 r0 Sq0 hr) m_X9_throwsOne_ rfl rfl kw1717 rfl rfl (Nat.le_of_ble_eq_true rfl) ⟨by decide, by decide⟩ ⟨Nat.zero_le _, Nat.zero_le _⟩ dX9_whyNoChase_25 (fun v11 S12 H locs hf h => ?_)
      refine x_br hf (lv_if_eq (tgt := 35) E.1 E.2.1 dX9_whyNoChase_28 (by decide)) (fun hf => ?_) (fun hf => ?_)
      · refine lv_aload_n E.1 E.2.1 dX9_whyNoChase_35 rfl (lv_at hl 0 rfl) ?_
        refine lv_iload_n E.1 E.2.1 dX9_whyNoChase_36 rfl (lv_at hl 1 rfl) ?_
        refine lv_iload_n E.1 E.2.1 dX9_whyNoChase_37 rfl (lv_at hl 2 rfl) ?_
        refine x_callp E h hl 0 hf (fun r0 hr => c_X9_whySpares l D cy s00 _ S12 p0 p1 r0 hr) m_X9_whySpares rfl rfl kw1506 rfl rfl (Nat.le_of_ble_eq_true rfl) ⟨by decide, by decide⟩ ⟨Nat.zero_le _, Nat.zero_le _⟩ dX9_whyNoChase_38 (fun v13 H locs hf h => ?_)
        exact x_iret E h hf dX9_whyNoChase_41
      · refine lv_iconst (v := 0) E.1 E.2.1 dX9_whyNoChase_31 (by decide) ?_
        refine lv_goto (tgt := 41) E.1 E.2.1 dX9_whyNoChase_32 (by decide) ?_
        exact x_iret E h hf dX9_whyNoChase_41
set_option maxHeartbeats 4000000 in
set_option maxRecDepth 100000 in
theorem w_X9_preyOf_L26 {p : Program} {l : Launch} {e : Env} {s : State} {m : MethodId} {args : Array Value} {below : List Frame} {meth : Method} {c : Code} {D : va_G} {cy : Nat → ClassId} {s00 : State} {ad : Nat → Nat} {A : Nat → Prop}  {r9 : Int32} {S9 : XS} {u1 : Int32} {S : XS} {K : Int32 → Int32 → Option (Int32 × XS)} (E : XE p s m args meth c cX9_preyOf 4 RX9 (some .int) D cy s00) (hk : ∀ (m2 m3 : Int32) (H : Heap) (locs : List Loc) (ls : Array Slot), K m2 m3 = some (r9, S9) → XH D cy s00 shMod ad S A s H locs → lv_has ls 4 [(0, .ref (ad 0)), (1, .int u1), (2, .int m2), (3, .int m3)] → W p l e (xrm 4) s m args below meth c H locs 0 0 (MQ below (xqi D cy shMod ad r9 S9 A) args s 0 0 A) (F0 m 66 ls [])) :
    ∀ (n : Nat) (m2 m3 : Int32) (H : Heap) (locs : List Loc) (ls : Array Slot), f_X9_preyOf_L26 K S u1 n m2 m3 = some (r9, S9) → XH D cy s00 shMod ad S A s H locs → lv_has ls 4 [(0, .ref (ad 0)), (1, .int u1), (2, .int m2), (3, .int m3)] → W p l e (xrm 4) s m args below meth c H locs 0 0 (MQ below (xqi D cy shMod ad r9 S9 A) args s 0 0 A) (F0 m 26 ls []) := by
  intro n
  induction n with
  | zero => intro m2 m3 H locs ls hf; cases hf
  | succ n ih =>
    intro m2 m3 H locs ls hf h hl
    rw [f_X9_preyOf_L26] at hf
    refine lv_iload_n E.1 E.2.1 dX9_preyOf_26 rfl (lv_at hl 3 rfl) ?_
    refine lv_aload_n E.1 E.2.1 dX9_preyOf_27 rfl (lv_at hl 0 rfl) ?_
    refine x_getr E h 0 0 1 rfl rfl rfl (by decide) xinX9 kw1610 dX9_preyOf_28 ?_
    refine lv_iconst (v := 2) E.1 E.2.1 dX9_preyOf_31 (by decide) ?_
    refine x_iald E h 1 hf rfl dX9_preyOf_32 (fun v4 hf => ?_)
    refine x_br hf (lv_icmp_ge (tgt := 66) E.1 E.2.1 dX9_preyOf_33 (by decide)) (fun hf => ?_) (fun hf => ?_)
    · exact hk _ _ _ _ _ hf h (lv_sub hl [0, 1, 2, 3] rfl)
    · refine lv_iload_n E.1 E.2.1 dX9_preyOf_36 rfl (lv_at hl 2 rfl) ?_
      refine lv_iload_n E.1 E.2.1 dX9_preyOf_37 rfl (lv_at hl 3 rfl) ?_
      refine lv_iload_n E.1 E.2.1 dX9_preyOf_38 rfl (lv_at hl 1 rfl) ?_
      refine x_br hf (lv_icmp_eq (tgt := 57) E.1 E.2.1 dX9_preyOf_39 (by decide)) (fun hf => ?_) (fun hf => ?_)
      · refine lv_iconst (v := 0) E.1 E.2.1 dX9_preyOf_57 (by decide) ?_
        refine lv_ior E.1 E.2.1 dX9_preyOf_58 ?_
        refine x_nm hf (fun v5 hf => ?_)
        refine lv_istore_n (lv' := [(2, .int v5), (0, .ref (ad 0)), (1, .int u1), (3, .int m3)]) E.1 E.2.1 dX9_preyOf_59 rfl hl (by decide) rfl (fun ls hl => ?_)
        refine x_nv hf (fun v6 e9 hf => ?_)
        refine lv_iinc (v := v6) (lv' := [(3, .int v6), (2, .int v5), (0, .ref (ad 0)), (1, .int u1)]) E.1 E.2.1 dX9_preyOf_60 hl (k := 3) rfl (by rw [e9]; rfl) (by decide) rfl (fun ls hl => ?_)
        refine lv_goto (tgt := 26) E.1 E.2.1 dX9_preyOf_63 (by decide) ?_
        exact ih _ _ _ _ _ hf h (lv_sub hl [2, 3, 1, 0] rfl)
      · refine lv_aload_n E.1 E.2.1 dX9_preyOf_42 rfl (lv_at hl 0 rfl) ?_
        refine lv_iload_n E.1 E.2.1 dX9_preyOf_43 rfl (lv_at hl 1 rfl) ?_
        refine lv_iload_n E.1 E.2.1 dX9_preyOf_44 rfl (lv_at hl 3 rfl) ?_
        refine x_callp E h hl 0 hf (fun r0 hr => c_X9_whySpares l D cy s00 _ S u1 m3 r0 hr) m_X9_whySpares rfl rfl kw1506 rfl rfl (Nat.le_of_ble_eq_true rfl) ⟨by decide, by decide⟩ ⟨Nat.zero_le _, Nat.zero_le _⟩ dX9_preyOf_45 (fun v7 H locs hf h => ?_)
        refine x_brn hf (lv_if_ne (tgt := 57) E.1 E.2.1 dX9_preyOf_48 (by decide)) (fun hf => ?_) (fun hf => ?_)
        · refine lv_iconst (v := 0) E.1 E.2.1 dX9_preyOf_57 (by decide) ?_
          refine lv_ior E.1 E.2.1 dX9_preyOf_58 ?_
          refine x_nm hf (fun v8 hf => ?_)
          refine lv_istore_n (lv' := [(2, .int v8), (0, .ref (ad 0)), (1, .int u1), (3, .int m3)]) E.1 E.2.1 dX9_preyOf_59 rfl hl (by decide) rfl (fun ls hl => ?_)
          refine x_nv hf (fun v9 e9 hf => ?_)
          refine lv_iinc (v := v9) (lv' := [(3, .int v9), (2, .int v8), (0, .ref (ad 0)), (1, .int u1)]) E.1 E.2.1 dX9_preyOf_60 hl (k := 3) rfl (by rw [e9]; rfl) (by decide) rfl (fun ls hl => ?_)
          refine lv_goto (tgt := 26) E.1 E.2.1 dX9_preyOf_63 (by decide) ?_
          exact ih _ _ _ _ _ hf h (lv_sub hl [2, 3, 1, 0] rfl)
        · refine lv_iconst (v := 1) E.1 E.2.1 dX9_preyOf_51 (by decide) ?_
          refine lv_iload_n E.1 E.2.1 dX9_preyOf_52 rfl (lv_at hl 3 rfl) ?_
          refine lv_ishl E.1 E.2.1 dX9_preyOf_53 ?_
          refine lv_goto (tgt := 58) E.1 E.2.1 dX9_preyOf_54 (by decide) ?_
          refine lv_ior E.1 E.2.1 dX9_preyOf_58 ?_
          refine x_nm hf (fun v10 hf => ?_)
          refine lv_istore_n (lv' := [(2, .int v10), (0, .ref (ad 0)), (1, .int u1), (3, .int m3)]) E.1 E.2.1 dX9_preyOf_59 rfl hl (by decide) rfl (fun ls hl => ?_)
          refine x_nv hf (fun v11 e9 hf => ?_)
          refine lv_iinc (v := v11) (lv' := [(3, .int v11), (2, .int v10), (0, .ref (ad 0)), (1, .int u1)]) E.1 E.2.1 dX9_preyOf_60 hl (k := 3) rfl (by rw [e9]; rfl) (by decide) rfl (fun ls hl => ?_)
          refine lv_goto (tgt := 26) E.1 E.2.1 dX9_preyOf_63 (by decide) ?_
          exact ih _ _ _ _ _ hf h (lv_sub hl [2, 3, 1, 0] rfl)
set_option maxHeartbeats 4000000 in
set_option maxRecDepth 100000 in
theorem c_X9_preyOf (l : Launch) (D : va_G) (cy : Nat → ClassId) (s00 : State) (ad : Nat → Nat) (S : XS) (p0 : Int32) (r9 : Int32) (S9 : XS) (hf : f_X9_preyOf S p0 = some (r9, S9)) : XI l yX9_preyOf cX9_preyOf 4 (some .int) 4 D cy s00 shMod ad S [.ref (ad 0), .int p0] r9 S9 := by
  refine XI.of (by decide) [(0, .ref (ad 0)), (1, .int p0)] rfl (Nat.le_of_ble_eq_true rfl) (fun p e s m args below meth c A ls E h hl => ?_)
  unfold f_X9_preyOf at hf
  refine lv_aload_n E.1 E.2.1 dX9_preyOf_0 rfl (lv_at hl 0 rfl) ?_
  refine lv_aload_n E.1 E.2.1 dX9_preyOf_1 rfl (lv_at hl 0 rfl) ?_
  refine lv_iload_n E.1 E.2.1 dX9_preyOf_2 rfl (lv_at hl 1 rfl) ?_
  refine x_callp E h hl 0 hf (fun r0 hr => c_X9_isCat l D cy s00 _ S p0 r0 hr) m_X9_isCat rfl rfl kw1744 rfl rfl (Nat.le_of_ble_eq_true rfl) ⟨by decide, by decide⟩ ⟨Nat.zero_le _, Nat.zero_le _⟩ dX9_preyOf_3 (fun v1 H locs hf h => ?_)
  refine x_brn hf (lv_if_ne (tgt := 13) E.1 E.2.1 dX9_preyOf_6 (by decide)) (fun hf => ?_) (fun hf => ?_)
  · refine lv_iconst (v := 0) E.1 E.2.1 dX9_preyOf_13 (by decide) ?_
    refine x_calli E h hl 0 hf (fun r0 Sq0 hr => c_X9_throwsOne l D cy s00 _ S 0 r0 Sq0 hr) m_X9_throwsOne rfl rfl kw1697 rfl rfl (Nat.le_of_ble_eq_true rfl) ⟨by decide, by decide⟩ ⟨Nat.zero_le _, Nat.zero_le _⟩ dX9_preyOf_14 (fun v2 S3 H locs hf h => ?_)
    refine x_br hf (lv_if_eq (tgt := 22) E.1 E.2.1 dX9_preyOf_17 (by decide)) (fun hf => ?_) (fun hf => ?_)
    · refine lv_iconst (v := 0) E.1 E.2.1 dX9_preyOf_22 (by decide) ?_
      refine lv_istore_n (lv' := [(2, .int 0), (0, .ref (ad 0)), (1, .int p0)]) E.1 E.2.1 dX9_preyOf_23 rfl hl (by decide) rfl (fun ls hl => ?_)
      refine lv_iconst (v := 0) E.1 E.2.1 dX9_preyOf_24 (by decide) ?_
      refine lv_istore_n (lv' := [(3, .int 0), (2, .int 0), (0, .ref (ad 0)), (1, .int p0)]) E.1 E.2.1 dX9_preyOf_25 rfl hl (by decide) rfl (fun ls hl => ?_)
      refine w_X9_preyOf_L26 E ?_ _ _ _ _ _ _ hf h (lv_sub hl [2, 3, 1, 0] rfl)
      intro v12 v13 H locs ls hf h hl
      refine lv_iload_n E.1 E.2.1 dX9_preyOf_66 rfl (lv_at hl 2 rfl) ?_
      exact x_iret E h hf dX9_preyOf_67
    · refine lv_iconst (v := 0) E.1 E.2.1 dX9_preyOf_20 (by decide) ?_
      exact x_iret E h hf dX9_preyOf_21
  · refine lv_iconst (v := 1) E.1 E.2.1 dX9_preyOf_9 (by decide) ?_
    refine lv_goto (tgt := 14) E.1 E.2.1 dX9_preyOf_10 (by decide) ?_
    refine x_calli E h hl 0 hf (fun r0 Sq0 hr => c_X9_throwsOne l D cy s00 _ S 1 r0 Sq0 hr) m_X9_throwsOne rfl rfl kw1697 rfl rfl (Nat.le_of_ble_eq_true rfl) ⟨by decide, by decide⟩ ⟨Nat.zero_le _, Nat.zero_le _⟩ dX9_preyOf_14 (fun v14 S15 H locs hf h => ?_)
    refine x_br hf (lv_if_eq (tgt := 22) E.1 E.2.1 dX9_preyOf_17 (by decide)) (fun hf => ?_) (fun hf => ?_)
    · refine lv_iconst (v := 0) E.1 E.2.1 dX9_preyOf_22 (by decide) ?_
      refine lv_istore_n (lv' := [(2, .int 0), (0, .ref (ad 0)), (1, .int p0)]) E.1 E.2.1 dX9_preyOf_23 rfl hl (by decide) rfl (fun ls hl => ?_)
      refine lv_iconst (v := 0) E.1 E.2.1 dX9_preyOf_24 (by decide) ?_
      refine lv_istore_n (lv' := [(3, .int 0), (2, .int 0), (0, .ref (ad 0)), (1, .int p0)]) E.1 E.2.1 dX9_preyOf_25 rfl hl (by decide) rfl (fun ls hl => ?_)
      refine w_X9_preyOf_L26 E ?_ _ _ _ _ _ _ hf h (lv_sub hl [2, 3, 1, 0] rfl)
      intro v16 v17 H locs ls hf h hl
      refine lv_iload_n E.1 E.2.1 dX9_preyOf_66 rfl (lv_at hl 2 rfl) ?_
      exact x_iret E h hf dX9_preyOf_67
    · refine lv_iconst (v := 0) E.1 E.2.1 dX9_preyOf_20 (by decide) ?_
      exact x_iret E h hf dX9_preyOf_21
set_option maxHeartbeats 4000000 in
set_option maxRecDepth 100000 in
theorem c_X9_isKittenWaiting (l : Launch) (D : va_G) (cy : Nat → ClassId) (s00 : State) (ad : Nat → Nat) (S : XS) (r9 : Int32) (S9 : XS) (hf : f_X9_isKittenWaiting S = some (r9, S9)) : XI l yX9_isKittenWaiting cX9_isKittenWaiting 1 (some .boolean) 1 D cy s00 shMod ad S [.ref (ad 0)] r9 S9 := by
  refine XI.of (by decide) [(0, .ref (ad 0))] rfl (Nat.le_of_ble_eq_true rfl) (fun p e s m args below meth c A ls E h hl => ?_)
  unfold f_X9_isKittenWaiting at hf
  refine lv_aload_n E.1 E.2.1 dX9_isKittenWaiting_0 rfl (lv_at hl 0 rfl) ?_
  refine lv_iconst (v := 0) E.1 E.2.1 dX9_isKittenWaiting_1 (by decide) ?_
  refine x_put (ty := .int) E h 0 16 hf rfl rfl rfl (by decide) xinX9 tyX9_ok nmX9 kw1626 rfl (by decide +kernel) rfl rfl dX9_isKittenWaiting_2 (fun S1 H locs hf h => ?_)
  refine lv_aload_n E.1 E.2.1 dX9_isKittenWaiting_5 rfl (lv_at hl 0 rfl) ?_
  refine x_callp E h hl 0 hf (fun r0 hr => c_X9_waits l D cy s00 _ S1  r0 hr) m_X9_waits rfl rfl kw1550 rfl rfl (Nat.le_of_ble_eq_true rfl) ⟨by decide, by decide⟩ ⟨Nat.zero_le _, Nat.zero_le _⟩ dX9_isKittenWaiting_6 (fun v2 H locs hf h => ?_)
  exact x_zret E h hf dX9_isKittenWaiting_9
set_option maxHeartbeats 4000000 in
set_option maxRecDepth 100000 in
theorem c_X9_votesFor (l : Launch) (D : va_G) (cy : Nat → ClassId) (s00 : State) (ad : Nat → Nat) (S : XS) (r9 : Int32) (S9 : XS) (hf : f_X9_votesFor S = some (r9, S9)) : XI l yX9_votesFor cX9_votesFor 1 (some .int) 1 D cy s00 shMod ad S [.ref (ad 0)] r9 S9 := by
  refine XI.of (by decide) [(0, .ref (ad 0))] rfl (Nat.le_of_ble_eq_true rfl) (fun p e s m args below meth c A ls E h hl => ?_)
  unfold f_X9_votesFor at hf
  refine lv_aload_n E.1 E.2.1 dX9_votesFor_0 rfl (lv_at hl 0 rfl) ?_
  refine lv_iconst (v := 0) E.1 E.2.1 dX9_votesFor_1 (by decide) ?_
  refine x_put (ty := .int) E h 0 16 hf rfl rfl rfl (by decide) xinX9 tyX9_ok nmX9 kw1626 rfl (by decide +kernel) rfl rfl dX9_votesFor_2 (fun S1 H locs hf h => ?_)
  refine lv_aload_n E.1 E.2.1 dX9_votesFor_5 rfl (lv_at hl 0 rfl) ?_
  refine x_getr E h 0 0 1 rfl rfl rfl (by decide) xinX9 kw1610 dX9_votesFor_6 ?_
  refine lv_bipush (v := 7) E.1 E.2.1 dX9_votesFor_9 (by decide) ?_
  refine x_iald E h 1 hf rfl dX9_votesFor_11 (fun v2 hf => ?_)
  refine x_callsp E h hl hf (fun r0 hr => c_X9_bits l D cy s00 _ _ v2 r0 hr) m_X9_bits kw1578 rfl rfl (Nat.le_of_ble_eq_true rfl) ⟨by decide, by decide⟩ ⟨Nat.zero_le _, Nat.zero_le _⟩ dX9_votesFor_12 (fun v3 H locs hf h => ?_)
  exact x_iret E h hf dX9_votesFor_15
set_option maxHeartbeats 4000000 in
set_option maxRecDepth 100000 in
theorem c_X9_votesAgainst (l : Launch) (D : va_G) (cy : Nat → ClassId) (s00 : State) (ad : Nat → Nat) (S : XS) (r9 : Int32) (S9 : XS) (hf : f_X9_votesAgainst S = some (r9, S9)) : XI l yX9_votesAgainst cX9_votesAgainst 1 (some .int) 1 D cy s00 shMod ad S [.ref (ad 0)] r9 S9 := by
  refine XI.of (by decide) [(0, .ref (ad 0))] rfl (Nat.le_of_ble_eq_true rfl) (fun p e s m args below meth c A ls E h hl => ?_)
  unfold f_X9_votesAgainst at hf
  refine lv_aload_n E.1 E.2.1 dX9_votesAgainst_0 rfl (lv_at hl 0 rfl) ?_
  refine lv_iconst (v := 0) E.1 E.2.1 dX9_votesAgainst_1 (by decide) ?_
  refine x_put (ty := .int) E h 0 16 hf rfl rfl rfl (by decide) xinX9 tyX9_ok nmX9 kw1626 rfl (by decide +kernel) rfl rfl dX9_votesAgainst_2 (fun S1 H locs hf h => ?_)
  refine lv_aload_n E.1 E.2.1 dX9_votesAgainst_5 rfl (lv_at hl 0 rfl) ?_
  refine x_getr E h 0 0 1 rfl rfl rfl (by decide) xinX9 kw1610 dX9_votesAgainst_6 ?_
  refine lv_bipush (v := 6) E.1 E.2.1 dX9_votesAgainst_9 (by decide) ?_
  refine x_iald E h 1 hf rfl dX9_votesAgainst_11 (fun v2 hf => ?_)
  refine x_callsp E h hl hf (fun r0 hr => c_X9_bits l D cy s00 _ _ v2 r0 hr) m_X9_bits kw1578 rfl rfl (Nat.le_of_ble_eq_true rfl) ⟨by decide, by decide⟩ ⟨Nat.zero_le _, Nat.zero_le _⟩ dX9_votesAgainst_12 (fun v3 H locs hf h => ?_)
  refine lv_aload_n E.1 E.2.1 dX9_votesAgainst_15 rfl (lv_at hl 0 rfl) ?_
  refine x_getr E h 0 0 1 rfl rfl rfl (by decide) xinX9 kw1610 dX9_votesAgainst_16 ?_
  refine lv_bipush (v := 7) E.1 E.2.1 dX9_votesAgainst_19 (by decide) ?_
  refine x_iald E h 1 hf rfl dX9_votesAgainst_21 (fun v4 hf => ?_)
  refine x_callsp E h hl hf (fun r0 hr => c_X9_bits l D cy s00 _ _ v4 r0 hr) m_X9_bits kw1578 rfl rfl (Nat.le_of_ble_eq_true rfl) ⟨by decide, by decide⟩ ⟨Nat.zero_le _, Nat.zero_le _⟩ dX9_votesAgainst_22 (fun v5 H locs hf h => ?_)
  refine lv_isub E.1 E.2.1 dX9_votesAgainst_25 ?_
  exact x_iret E h hf dX9_votesAgainst_26
set_option maxHeartbeats 4000000 in
set_option maxRecDepth 100000 in
theorem c_X9_hasVoted (l : Launch) (D : va_G) (cy : Nat → ClassId) (s00 : State) (ad : Nat → Nat) (S : XS) (p0 : Int32) (r9 : Int32) (S9 : XS) (hf : f_X9_hasVoted S p0 = some (r9, S9)) : XI l yX9_hasVoted cX9_hasVoted 2 (some .boolean) 2 D cy s00 shMod ad S [.ref (ad 0), .int p0] r9 S9 := by
  refine XI.of (by decide) [(0, .ref (ad 0)), (1, .int p0)] rfl (Nat.le_of_ble_eq_true rfl) (fun p e s m args below meth c A ls E h hl => ?_)
  unfold f_X9_hasVoted at hf
  refine lv_aload_n E.1 E.2.1 dX9_hasVoted_0 rfl (lv_at hl 0 rfl) ?_
  refine lv_aload_n E.1 E.2.1 dX9_hasVoted_1 rfl (lv_at hl 0 rfl) ?_
  refine lv_iload_n E.1 E.2.1 dX9_hasVoted_2 rfl (lv_at hl 1 rfl) ?_
  refine x_callp E h hl 0 hf (fun r0 hr => c_X9_isCat l D cy s00 _ S p0 r0 hr) m_X9_isCat rfl rfl kw1744 rfl rfl (Nat.le_of_ble_eq_true rfl) ⟨by decide, by decide⟩ ⟨Nat.zero_le _, Nat.zero_le _⟩ dX9_hasVoted_3 (fun v1 H locs hf h => ?_)
  refine x_brn hf (lv_if_ne (tgt := 13) E.1 E.2.1 dX9_hasVoted_6 (by decide)) (fun hf => ?_) (fun hf => ?_)
  · refine lv_iconst (v := 0) E.1 E.2.1 dX9_hasVoted_13 (by decide) ?_
    refine x_calli E h hl 0 hf (fun r0 Sq0 hr => c_X9_throwsOne l D cy s00 _ S 0 r0 Sq0 hr) m_X9_throwsOne rfl rfl kw1697 rfl rfl (Nat.le_of_ble_eq_true rfl) ⟨by decide, by decide⟩ ⟨Nat.zero_le _, Nat.zero_le _⟩ dX9_hasVoted_14 (fun v2 S3 H locs hf h => ?_)
    refine x_brn hf (lv_if_ne (tgt := 39) E.1 E.2.1 dX9_hasVoted_17 (by decide)) (fun hf => ?_) (fun hf => ?_)
    · refine lv_iconst (v := 0) E.1 E.2.1 dX9_hasVoted_39 (by decide) ?_
      exact x_zic E h (by decide) hf dX9_hasVoted_40
    · refine lv_aload_n E.1 E.2.1 dX9_hasVoted_20 rfl (lv_at hl 0 rfl) ?_
      refine x_getr E h 0 0 1 rfl rfl rfl (by decide) xinX9 kw1610 dX9_hasVoted_21 ?_
      refine lv_bipush (v := 6) E.1 E.2.1 dX9_hasVoted_24 (by decide) ?_
      refine x_iald E h 1 hf rfl dX9_hasVoted_26 (fun v4 hf => ?_)
      refine lv_iload_n E.1 E.2.1 dX9_hasVoted_27 rfl (lv_at hl 1 rfl) ?_
      refine lv_ishr E.1 E.2.1 dX9_hasVoted_28 ?_
      refine lv_iconst (v := 1) E.1 E.2.1 dX9_hasVoted_29 (by decide) ?_
      refine lv_iand E.1 E.2.1 dX9_hasVoted_30 ?_
      refine lv_iconst (v := 1) E.1 E.2.1 dX9_hasVoted_31 (by decide) ?_
      refine x_brn hf (lv_icmp_ne (tgt := 39) E.1 E.2.1 dX9_hasVoted_32 (by decide)) (fun hf => ?_) (fun hf => ?_)
      · refine lv_iconst (v := 0) E.1 E.2.1 dX9_hasVoted_39 (by decide) ?_
        exact x_zic E h (by decide) hf dX9_hasVoted_40
      · refine lv_iconst (v := 1) E.1 E.2.1 dX9_hasVoted_35 (by decide) ?_
        refine lv_goto (tgt := 40) E.1 E.2.1 dX9_hasVoted_36 (by decide) ?_
        exact x_zic E h (by decide) hf dX9_hasVoted_40
  · refine lv_iconst (v := 1) E.1 E.2.1 dX9_hasVoted_9 (by decide) ?_
    refine lv_goto (tgt := 14) E.1 E.2.1 dX9_hasVoted_10 (by decide) ?_
    refine x_calli E h hl 0 hf (fun r0 Sq0 hr => c_X9_throwsOne l D cy s00 _ S 1 r0 Sq0 hr) m_X9_throwsOne rfl rfl kw1697 rfl rfl (Nat.le_of_ble_eq_true rfl) ⟨by decide, by decide⟩ ⟨Nat.zero_le _, Nat.zero_le _⟩ dX9_hasVoted_14 (fun v5 S6 H locs hf h => ?_)
    refine x_brn hf (lv_if_ne (tgt := 39) E.1 E.2.1 dX9_hasVoted_17 (by decide)) (fun hf => ?_) (fun hf => ?_)
    · refine lv_iconst (v := 0) E.1 E.2.1 dX9_hasVoted_39 (by decide) ?_
      exact x_zic E h (by decide) hf dX9_hasVoted_40
    · refine lv_aload_n E.1 E.2.1 dX9_hasVoted_20 rfl (lv_at hl 0 rfl) ?_
      refine x_getr E h 0 0 1 rfl rfl rfl (by decide) xinX9 kw1610 dX9_hasVoted_21 ?_
      refine lv_bipush (v := 6) E.1 E.2.1 dX9_hasVoted_24 (by decide) ?_
      refine x_iald E h 1 hf rfl dX9_hasVoted_26 (fun v7 hf => ?_)
      refine lv_iload_n E.1 E.2.1 dX9_hasVoted_27 rfl (lv_at hl 1 rfl) ?_
      refine lv_ishr E.1 E.2.1 dX9_hasVoted_28 ?_
      refine lv_iconst (v := 1) E.1 E.2.1 dX9_hasVoted_29 (by decide) ?_
      refine lv_iand E.1 E.2.1 dX9_hasVoted_30 ?_
      refine lv_iconst (v := 1) E.1 E.2.1 dX9_hasVoted_31 (by decide) ?_
      refine x_brn hf (lv_icmp_ne (tgt := 39) E.1 E.2.1 dX9_hasVoted_32 (by decide)) (fun hf => ?_) (fun hf => ?_)
      · refine lv_iconst (v := 0) E.1 E.2.1 dX9_hasVoted_39 (by decide) ?_
        exact x_zic E h (by decide) hf dX9_hasVoted_40
      · refine lv_iconst (v := 1) E.1 E.2.1 dX9_hasVoted_35 (by decide) ?_
        refine lv_goto (tgt := 40) E.1 E.2.1 dX9_hasVoted_36 (by decide) ?_
        exact x_zic E h (by decide) hf dX9_hasVoted_40
set_option maxHeartbeats 4000000 in
set_option maxRecDepth 100000 in
theorem c_X9_choirOf (l : Launch) (D : va_G) (cy : Nat → ClassId) (s00 : State) (ad : Nat → Nat) (S : XS) (p0 : Int32) (r9 : Int32) (S9 : XS) (hf : f_X9_choirOf S p0 = some (r9, S9)) : XI l yX9_choirOf cX9_choirOf 2 (some .int) 4 D cy s00 shMod ad S [.ref (ad 0), .int p0] r9 S9 := by
  refine XI.of (by decide) [(0, .ref (ad 0)), (1, .int p0)] rfl (Nat.le_of_ble_eq_true rfl) (fun p e s m args below meth c A ls E h hl => ?_)
  unfold f_X9_choirOf at hf
  refine lv_aload_n E.1 E.2.1 dX9_choirOf_0 rfl (lv_at hl 0 rfl) ?_
  refine lv_aload_n E.1 E.2.1 dX9_choirOf_1 rfl (lv_at hl 0 rfl) ?_
  refine lv_iload_n E.1 E.2.1 dX9_choirOf_2 rfl (lv_at hl 1 rfl) ?_
  refine x_callp E h hl 0 hf (fun r0 hr => c_X9_isCat l D cy s00 _ S p0 r0 hr) m_X9_isCat rfl rfl kw1744 rfl rfl (Nat.le_of_ble_eq_true rfl) ⟨by decide, by decide⟩ ⟨Nat.zero_le _, Nat.zero_le _⟩ dX9_choirOf_3 (fun v1 H locs hf h => ?_)
  refine x_brn hf (lv_if_ne (tgt := 13) E.1 E.2.1 dX9_choirOf_6 (by decide)) (fun hf => ?_) (fun hf => ?_)
  · refine lv_iconst (v := 0) E.1 E.2.1 dX9_choirOf_13 (by decide) ?_
    refine x_calli E h hl 0 hf (fun r0 Sq0 hr => c_X9_throwsOne l D cy s00 _ S 0 r0 Sq0 hr) m_X9_throwsOne rfl rfl kw1697 rfl rfl (Nat.le_of_ble_eq_true rfl) ⟨by decide, by decide⟩ ⟨Nat.zero_le _, Nat.zero_le _⟩ dX9_choirOf_14 (fun v2 S3 H locs hf h => ?_)
    refine x_br hf (lv_if_eq (tgt := 24) E.1 E.2.1 dX9_choirOf_17 (by decide)) (fun hf => ?_) (fun hf => ?_)
    · refine lv_aload_n E.1 E.2.1 dX9_choirOf_24 rfl (lv_at hl 0 rfl) ?_
      refine lv_iload_n E.1 E.2.1 dX9_choirOf_25 rfl (lv_at hl 1 rfl) ?_
      refine x_callp E h hl 0 hf (fun r0 hr => c_X9_choir l D cy s00 _ S3 p0 r0 hr) m_X9_choir rfl rfl kw1606 rfl rfl (Nat.le_of_ble_eq_true rfl) ⟨by decide, by decide⟩ ⟨Nat.zero_le _, Nat.zero_le _⟩ dX9_choirOf_26 (fun v4 H locs hf h => ?_)
      exact x_iret E h hf dX9_choirOf_29
    · refine lv_iconst (v := 0) E.1 E.2.1 dX9_choirOf_20 (by decide) ?_
      refine lv_goto (tgt := 29) E.1 E.2.1 dX9_choirOf_21 (by decide) ?_
      exact x_iret E h hf dX9_choirOf_29
  · refine lv_iconst (v := 1) E.1 E.2.1 dX9_choirOf_9 (by decide) ?_
    refine lv_goto (tgt := 14) E.1 E.2.1 dX9_choirOf_10 (by decide) ?_
    refine x_calli E h hl 0 hf (fun r0 Sq0 hr => c_X9_throwsOne l D cy s00 _ S 1 r0 Sq0 hr) m_X9_throwsOne rfl rfl kw1697 rfl rfl (Nat.le_of_ble_eq_true rfl) ⟨by decide, by decide⟩ ⟨Nat.zero_le _, Nat.zero_le _⟩ dX9_choirOf_14 (fun v5 S6 H locs hf h => ?_)
    refine x_br hf (lv_if_eq (tgt := 24) E.1 E.2.1 dX9_choirOf_17 (by decide)) (fun hf => ?_) (fun hf => ?_)
    · refine lv_aload_n E.1 E.2.1 dX9_choirOf_24 rfl (lv_at hl 0 rfl) ?_
      refine lv_iload_n E.1 E.2.1 dX9_choirOf_25 rfl (lv_at hl 1 rfl) ?_
      refine x_callp E h hl 0 hf (fun r0 hr => c_X9_choir l D cy s00 _ S6 p0 r0 hr) m_X9_choir rfl rfl kw1606 rfl rfl (Nat.le_of_ble_eq_true rfl) ⟨by decide, by decide⟩ ⟨Nat.zero_le _, Nat.zero_le _⟩ dX9_choirOf_26 (fun v7 H locs hf h => ?_)
      exact x_iret E h hf dX9_choirOf_29
    · refine lv_iconst (v := 0) E.1 E.2.1 dX9_choirOf_20 (by decide) ?_
      refine lv_goto (tgt := 29) E.1 E.2.1 dX9_choirOf_21 (by decide) ?_
      exact x_iret E h hf dX9_choirOf_29
set_option maxHeartbeats 4000000 in
set_option maxRecDepth 100000 in
theorem w_X9_choirCount_L9 {p : Program} {l : Launch} {e : Env} {s : State} {m : MethodId} {args : Array Value} {below : List Frame} {meth : Method} {c : Code} {D : va_G} {cy : Nat → ClassId} {s00 : State} {ad : Nat → Nat} {A : Nat → Prop}  {r9 : Int32} {S9 : XS}  {S : XS} {K : Int32 → Int32 → Option (Int32 × XS)} (E : XE p s m args meth c cX9_choirCount 3 RX9 (some .int) D cy s00) (hk : ∀ (m1 m2 : Int32) (H : Heap) (locs : List Loc) (ls : Array Slot), K m1 m2 = some (r9, S9) → XH D cy s00 shMod ad S A s H locs → lv_has ls 3 [(0, .ref (ad 0)), (1, .int m1), (2, .int m2)] → W p l e (xrm 4) s m args below meth c H locs 0 0 (MQ below (xqi D cy shMod ad r9 S9 A) args s 0 0 A) (F0 m 45 ls [])) :
    ∀ (n : Nat) (m1 m2 : Int32) (H : Heap) (locs : List Loc) (ls : Array Slot), f_X9_choirCount_L9 K S n m1 m2 = some (r9, S9) → XH D cy s00 shMod ad S A s H locs → lv_has ls 3 [(0, .ref (ad 0)), (1, .int m1), (2, .int m2)] → W p l e (xrm 4) s m args below meth c H locs 0 0 (MQ below (xqi D cy shMod ad r9 S9 A) args s 0 0 A) (F0 m 9 ls []) := by
  intro n
  induction n with
  | zero => intro m1 m2 H locs ls hf; cases hf
  | succ n ih =>
    intro m1 m2 H locs ls hf h hl
    rw [f_X9_choirCount_L9] at hf
    refine lv_iload_n E.1 E.2.1 dX9_choirCount_9 rfl (lv_at hl 2 rfl) ?_
    refine lv_aload_n E.1 E.2.1 dX9_choirCount_10 rfl (lv_at hl 0 rfl) ?_
    refine x_getr E h 0 0 1 rfl rfl rfl (by decide) xinX9 kw1610 dX9_choirCount_11 ?_
    refine lv_iconst (v := 2) E.1 E.2.1 dX9_choirCount_14 (by decide) ?_
    refine x_iald E h 1 hf rfl dX9_choirCount_15 (fun v2 hf => ?_)
    refine x_br hf (lv_icmp_ge (tgt := 45) E.1 E.2.1 dX9_choirCount_16 (by decide)) (fun hf => ?_) (fun hf => ?_)
    · exact hk _ _ _ _ _ hf h (lv_sub hl [0, 1, 2] rfl)
    · refine lv_iload_n E.1 E.2.1 dX9_choirCount_19 rfl (lv_at hl 1 rfl) ?_
      refine lv_aload_n E.1 E.2.1 dX9_choirCount_20 rfl (lv_at hl 0 rfl) ?_
      refine lv_iload_n E.1 E.2.1 dX9_choirCount_21 rfl (lv_at hl 2 rfl) ?_
      refine x_callp E h hl 0 hf (fun r0 hr => c_X9_choir l D cy s00 _ S m2 r0 hr) m_X9_choir rfl rfl kw1606 rfl rfl (Nat.le_of_ble_eq_true rfl) ⟨by decide, by decide⟩ ⟨Nat.zero_le _, Nat.zero_le _⟩ dX9_choirCount_22 (fun v3 H locs hf h => ?_)
      refine lv_iconst (v := 1) E.1 E.2.1 dX9_choirCount_25 (by decide) ?_
      refine lv_iload_n E.1 E.2.1 dX9_choirCount_26 rfl (lv_at hl 2 rfl) ?_
      refine lv_ishl E.1 E.2.1 dX9_choirCount_27 ?_
      refine x_case hf (fun c9 hf => by cases hf) (fun c9 hf => ?_)
      refine lv_irem E.1 E.2.1 dX9_choirCount_28 c9 ?_
      refine x_brn hf (lv_if_ne (tgt := 36) E.1 E.2.1 dX9_choirCount_29 (by decide)) (fun hf => ?_) (fun hf => ?_)
      · refine lv_iconst (v := 0) E.1 E.2.1 dX9_choirCount_36 (by decide) ?_
        refine lv_iadd E.1 E.2.1 dX9_choirCount_37 ?_
        refine x_nm hf (fun v4 hf => ?_)
        refine lv_istore_n (lv' := [(1, .int v4), (0, .ref (ad 0)), (2, .int m2)]) E.1 E.2.1 dX9_choirCount_38 rfl hl (by decide) rfl (fun ls hl => ?_)
        refine x_nv hf (fun v5 e9 hf => ?_)
        refine lv_iinc (v := v5) (lv' := [(2, .int v5), (1, .int v4), (0, .ref (ad 0))]) E.1 E.2.1 dX9_choirCount_39 hl (k := 2) rfl (by rw [e9]; rfl) (by decide) rfl (fun ls hl => ?_)
        refine lv_goto (tgt := 9) E.1 E.2.1 dX9_choirCount_42 (by decide) ?_
        exact ih _ _ _ _ _ hf h (lv_sub hl [2, 1, 0] rfl)
      · refine lv_iconst (v := 1) E.1 E.2.1 dX9_choirCount_32 (by decide) ?_
        refine lv_goto (tgt := 37) E.1 E.2.1 dX9_choirCount_33 (by decide) ?_
        refine lv_iadd E.1 E.2.1 dX9_choirCount_37 ?_
        refine x_nm hf (fun v6 hf => ?_)
        refine lv_istore_n (lv' := [(1, .int v6), (0, .ref (ad 0)), (2, .int m2)]) E.1 E.2.1 dX9_choirCount_38 rfl hl (by decide) rfl (fun ls hl => ?_)
        refine x_nv hf (fun v7 e9 hf => ?_)
        refine lv_iinc (v := v7) (lv' := [(2, .int v7), (1, .int v6), (0, .ref (ad 0))]) E.1 E.2.1 dX9_choirCount_39 hl (k := 2) rfl (by rw [e9]; rfl) (by decide) rfl (fun ls hl => ?_)
        refine lv_goto (tgt := 9) E.1 E.2.1 dX9_choirCount_42 (by decide) ?_
        exact ih _ _ _ _ _ hf h (lv_sub hl [2, 1, 0] rfl)
set_option maxHeartbeats 4000000 in
set_option maxRecDepth 100000 in
theorem c_X9_choirCount (l : Launch) (D : va_G) (cy : Nat → ClassId) (s00 : State) (ad : Nat → Nat) (S : XS) (r9 : Int32) (S9 : XS) (hf : f_X9_choirCount S = some (r9, S9)) : XI l yX9_choirCount cX9_choirCount 3 (some .int) 4 D cy s00 shMod ad S [.ref (ad 0)] r9 S9 := by
  refine XI.of (by decide) [(0, .ref (ad 0))] rfl (Nat.le_of_ble_eq_true rfl) (fun p e s m args below meth c A ls E h hl => ?_)
  unfold f_X9_choirCount at hf
  refine lv_aload_n E.1 E.2.1 dX9_choirCount_0 rfl (lv_at hl 0 rfl) ?_
  refine lv_iconst (v := 0) E.1 E.2.1 dX9_choirCount_1 (by decide) ?_
  refine x_put (ty := .int) E h 0 16 hf rfl rfl rfl (by decide) xinX9 tyX9_ok nmX9 kw1626 rfl (by decide +kernel) rfl rfl dX9_choirCount_2 (fun S1 H locs hf h => ?_)
  refine lv_iconst (v := 0) E.1 E.2.1 dX9_choirCount_5 (by decide) ?_
  refine lv_istore_n (lv' := [(1, .int 0), (0, .ref (ad 0))]) E.1 E.2.1 dX9_choirCount_6 rfl hl (by decide) rfl (fun ls hl => ?_)
  refine lv_iconst (v := 0) E.1 E.2.1 dX9_choirCount_7 (by decide) ?_
  refine lv_istore_n (lv' := [(2, .int 0), (1, .int 0), (0, .ref (ad 0))]) E.1 E.2.1 dX9_choirCount_8 rfl hl (by decide) rfl (fun ls hl => ?_)
  refine w_X9_choirCount_L9 E ?_ _ _ _ _ _ _ hf h (lv_sub hl [2, 1, 0] rfl)
  intro v8 v9 H locs ls hf h hl
  refine lv_iload_n E.1 E.2.1 dX9_choirCount_45 rfl (lv_at hl 1 rfl) ?_
  exact x_iret E h hf dX9_choirCount_46
set_option maxHeartbeats 4000000 in
set_option maxRecDepth 100000 in
theorem c_X9_largestChoir (l : Launch) (D : va_G) (cy : Nat → ClassId) (s00 : State) (ad : Nat → Nat) (S : XS) (r9 : Int32) (S9 : XS) (hf : f_X9_largestChoir S = some (r9, S9)) : XI l yX9_largestChoir cX9_largestChoir 1 (some .int) 5 D cy s00 shMod ad S [.ref (ad 0)] r9 S9 := by
  refine XI.of (by decide) [(0, .ref (ad 0))] rfl (Nat.le_of_ble_eq_true rfl) (fun p e s m args below meth c A ls E h hl => ?_)
  unfold f_X9_largestChoir at hf
  refine lv_aload_n E.1 E.2.1 dX9_largestChoir_0 rfl (lv_at hl 0 rfl) ?_
  refine lv_iconst (v := 0) E.1 E.2.1 dX9_largestChoir_1 (by decide) ?_
  refine x_put (ty := .int) E h 0 16 hf rfl rfl rfl (by decide) xinX9 tyX9_ok nmX9 kw1626 rfl (by decide +kernel) rfl rfl dX9_largestChoir_2 (fun S1 H locs hf h => ?_)
  refine lv_aload_n E.1 E.2.1 dX9_largestChoir_5 rfl (lv_at hl 0 rfl) ?_
  refine x_callp E h hl 0 hf (fun r0 hr => c_X9_greatestChoir l D cy s00 _ S1  r0 hr) m_X9_greatestChoir rfl rfl kw1602 rfl rfl (Nat.le_of_ble_eq_true rfl) ⟨by decide, by decide⟩ ⟨Nat.zero_le _, Nat.zero_le _⟩ dX9_largestChoir_6 (fun v2 H locs hf h => ?_)
  exact x_iret E h hf dX9_largestChoir_9
set_option maxHeartbeats 4000000 in
set_option maxRecDepth 100000 in
theorem w_X9_nightsToFullMoon_L7 {p : Program} {l : Launch} {e : Env} {s : State} {m : MethodId} {args : Array Value} {below : List Frame} {meth : Method} {c : Code} {D : va_G} {cy : Nat → ClassId} {s00 : State} {ad : Nat → Nat} {A : Nat → Prop}  {r9 : Int32} {S9 : XS}  {S : XS} {K : Int32 → Option (Int32 × XS)} (E : XE p s m args meth c cX9_nightsToFullMoon 2 RX9 (some .int) D cy s00) (hk : ∀ (m1 : Int32) (H : Heap) (locs : List Loc) (ls : Array Slot), K m1 = some (r9, S9) → XH D cy s00 shMod ad S A s H locs → lv_has ls 2 [(0, .ref (ad 0)), (1, .int m1)] → W p l e (xrm 0) s m args below meth c H locs 0 0 (MQ below (xqi D cy shMod ad r9 S9 A) args s 0 0 A) (F0 m 28 ls [])) :
    ∀ (n : Nat) (m1 : Int32) (H : Heap) (locs : List Loc) (ls : Array Slot), f_X9_nightsToFullMoon_L7 K S n m1 = some (r9, S9) → XH D cy s00 shMod ad S A s H locs → lv_has ls 2 [(0, .ref (ad 0)), (1, .int m1)] → W p l e (xrm 0) s m args below meth c H locs 0 0 (MQ below (xqi D cy shMod ad r9 S9 A) args s 0 0 A) (F0 m 7 ls []) := by
  intro n
  induction n with
  | zero => intro m1 H locs ls hf; cases hf
  | succ n ih =>
    intro m1 H locs ls hf h hl
    rw [f_X9_nightsToFullMoon_L7] at hf
    refine lv_aload_n E.1 E.2.1 dX9_nightsToFullMoon_7 rfl (lv_at hl 0 rfl) ?_
    refine x_getr E h 0 0 1 rfl rfl rfl (by decide) xinX9 kw1610 dX9_nightsToFullMoon_8 ?_
    refine lv_iconst (v := 3) E.1 E.2.1 dX9_nightsToFullMoon_11 (by decide) ?_
    refine x_iald E h 1 hf rfl dX9_nightsToFullMoon_12 (fun v2 hf => ?_)
    refine lv_iload_n E.1 E.2.1 dX9_nightsToFullMoon_13 rfl (lv_at hl 1 rfl) ?_
    refine lv_iadd E.1 E.2.1 dX9_nightsToFullMoon_14 ?_
    refine lv_bipush (v := 8) E.1 E.2.1 dX9_nightsToFullMoon_15 (by decide) ?_
    refine lv_irem E.1 E.2.1 dX9_nightsToFullMoon_17 (by decide) ?_
    refine lv_iconst (v := 4) E.1 E.2.1 dX9_nightsToFullMoon_18 (by decide) ?_
    refine x_br hf (lv_icmp_eq (tgt := 28) E.1 E.2.1 dX9_nightsToFullMoon_19 (by decide)) (fun hf => ?_) (fun hf => ?_)
    · exact hk _ _ _ _ hf h (lv_sub hl [0, 1] rfl)
    · refine x_nv hf (fun v3 e9 hf => ?_)
      refine lv_iinc (v := v3) (lv' := [(1, .int v3), (0, .ref (ad 0))]) E.1 E.2.1 dX9_nightsToFullMoon_22 hl (k := 1) rfl (by rw [e9]; rfl) (by decide) rfl (fun ls hl => ?_)
      refine lv_goto (tgt := 7) E.1 E.2.1 dX9_nightsToFullMoon_25 (by decide) ?_
      exact ih _ _ _ _ hf h (lv_sub hl [1, 0] rfl)
set_option maxHeartbeats 4000000 in
set_option maxRecDepth 100000 in
theorem c_X9_nightsToFullMoon (l : Launch) (D : va_G) (cy : Nat → ClassId) (s00 : State) (ad : Nat → Nat) (S : XS) (r9 : Int32) (S9 : XS) (hf : f_X9_nightsToFullMoon S = some (r9, S9)) : XI l yX9_nightsToFullMoon cX9_nightsToFullMoon 2 (some .int) 0 D cy s00 shMod ad S [.ref (ad 0)] r9 S9 := by
  refine XI.of (by decide) [(0, .ref (ad 0))] rfl (Nat.le_of_ble_eq_true rfl) (fun p e s m args below meth c A ls E h hl => ?_)
  unfold f_X9_nightsToFullMoon at hf
  refine lv_aload_n E.1 E.2.1 dX9_nightsToFullMoon_0 rfl (lv_at hl 0 rfl) ?_
  refine lv_iconst (v := 0) E.1 E.2.1 dX9_nightsToFullMoon_1 (by decide) ?_
  refine x_put (ty := .int) E h 0 16 hf rfl rfl rfl (by decide) xinX9 tyX9_ok nmX9 kw1626 rfl (by decide +kernel) rfl rfl dX9_nightsToFullMoon_2 (fun S1 H locs hf h => ?_)
  refine lv_iconst (v := 1) E.1 E.2.1 dX9_nightsToFullMoon_5 (by decide) ?_
  refine lv_istore_n (lv' := [(1, .int 1), (0, .ref (ad 0))]) E.1 E.2.1 dX9_nightsToFullMoon_6 rfl hl (by decide) rfl (fun ls hl => ?_)
  refine w_X9_nightsToFullMoon_L7 E ?_ _ _ _ _ _ hf h (lv_sub hl [1, 0] rfl)
  intro v4 H locs ls hf h hl
  refine lv_iload_n E.1 E.2.1 dX9_nightsToFullMoon_28 rfl (lv_at hl 1 rfl) ?_
  exact x_iret E h hf dX9_nightsToFullMoon_29
set_option maxHeartbeats 4000000 in
set_option maxRecDepth 100000 in
theorem w_X9_fishAfter_L39 {p : Program} {l : Launch} {e : Env} {s : State} {m : MethodId} {args : Array Value} {below : List Frame} {meth : Method} {c : Code} {D : va_G} {cy : Nat → ClassId} {s00 : State} {ad : Nat → Nat} {A : Nat → Prop}  {r9 : Int32} {S9 : XS} {u1 : Int32} {u2 : Int32} {K : Int32 → XS → Option (Int32 × XS)} (E : XE p s m args meth c cX9_fishAfter 5 RX9 (some .int) D cy s00) (hk : ∀ (m3 : Int32) (S1 : XS) (H : Heap) (locs : List Loc) (ls : Array Slot), K m3 S1 = some (r9, S9) → XH D cy s00 shMod ad S1 A s H locs → lv_has ls 5 [(0, .ref (ad 0)), (1, .int u1), (2, .int u2), (3, .int m3)] → W p l e (xrm 7) s m args below meth c H locs 0 0 (MQ below (xqi D cy shMod ad r9 S9 A) args s 0 0 A) (F0 m 64 ls [])) :
    ∀ (n : Nat) (m3 : Int32) (S : XS) (H : Heap) (locs : List Loc) (ls : Array Slot), f_X9_fishAfter_L39 K u1 u2 n m3 S = some (r9, S9) → XH D cy s00 shMod ad S A s H locs → lv_has ls 5 [(0, .ref (ad 0)), (1, .int u1), (2, .int u2), (3, .int m3)] → W p l e (xrm 7) s m args below meth c H locs 0 0 (MQ below (xqi D cy shMod ad r9 S9 A) args s 0 0 A) (F0 m 39 ls []) := by
  intro n
  induction n with
  | zero => intro m3 S H locs ls hf; cases hf
  | succ n ih =>
    intro m3 S H locs ls hf h hl
    rw [f_X9_fishAfter_L39] at hf
    refine lv_iload_n E.1 E.2.1 dX9_fishAfter_39 rfl (lv_at hl 3 rfl) ?_
    refine lv_sipush (v := 186) E.1 E.2.1 dX9_fishAfter_40 (by decide) ?_
    refine x_br hf (lv_icmp_ge (tgt := 64) E.1 E.2.1 dX9_fishAfter_43 (by decide)) (fun hf => ?_) (fun hf => ?_)
    · exact hk _ _ _ _ _ hf h (lv_sub hl [0, 1, 2, 3] rfl)
    · refine lv_aload_n E.1 E.2.1 dX9_fishAfter_46 rfl (lv_at hl 0 rfl) ?_
      refine x_getr E h 0 2 3 rfl rfl rfl (by decide) xinX9 kw1612 dX9_fishAfter_47 ?_
      refine lv_iload_n E.1 E.2.1 dX9_fishAfter_50 rfl (lv_at hl 3 rfl) ?_
      refine lv_aload_n E.1 E.2.1 dX9_fishAfter_51 rfl (lv_at hl 0 rfl) ?_
      refine x_getr E h 0 0 1 rfl rfl rfl (by decide) xinX9 kw1610 dX9_fishAfter_52 ?_
      refine lv_iload_n E.1 E.2.1 dX9_fishAfter_55 rfl (lv_at hl 3 rfl) ?_
      refine x_iald E h 1 hf rfl dX9_fishAfter_56 (fun v5 hf => ?_)
      refine x_iast E h 3 hf rfl dX9_fishAfter_57 (fun S6 H locs hf h => ?_)
      refine x_nv hf (fun v8 e9 hf => ?_)
      refine lv_iinc (v := v8) (lv' := [(3, .int v8), (0, .ref (ad 0)), (1, .int u1), (2, .int u2)]) E.1 E.2.1 dX9_fishAfter_58 hl (k := 3) rfl (by rw [e9]; rfl) (by decide) rfl (fun ls hl => ?_)
      refine lv_goto (tgt := 39) E.1 E.2.1 dX9_fishAfter_61 (by decide) ?_
      exact ih _ _ _ _ _ hf h (lv_sub hl [1, 2, 3, 0] rfl)
set_option maxHeartbeats 4000000 in
set_option maxRecDepth 100000 in
theorem w_X9_fishAfter_L80 {p : Program} {l : Launch} {e : Env} {s : State} {m : MethodId} {args : Array Value} {below : List Frame} {meth : Method} {c : Code} {D : va_G} {cy : Nat → ClassId} {s00 : State} {ad : Nat → Nat} {A : Nat → Prop}  {r9 : Int32} {S9 : XS} {u1 : Int32} {u2 : Int32} {u3 : Int32} {K : Int32 → XS → Option (Int32 × XS)} (E : XE p s m args meth c cX9_fishAfter 5 RX9 (some .int) D cy s00) (hk : ∀ (m4 : Int32) (S1 : XS) (H : Heap) (locs : List Loc) (ls : Array Slot), K m4 S1 = some (r9, S9) → XH D cy s00 shMod ad S1 A s H locs → lv_has ls 5 [(0, .ref (ad 0)), (1, .int u1), (2, .int u2), (3, .int u3), (4, .int m4)] → W p l e (xrm 7) s m args below meth c H locs 0 0 (MQ below (xqi D cy shMod ad r9 S9 A) args s 0 0 A) (F0 m 108 ls [])) :
    ∀ (n : Nat) (m4 : Int32) (S : XS) (H : Heap) (locs : List Loc) (ls : Array Slot), f_X9_fishAfter_L80 K u1 u2 u3 n m4 S = some (r9, S9) → XH D cy s00 shMod ad S A s H locs → lv_has ls 5 [(0, .ref (ad 0)), (1, .int u1), (2, .int u2), (3, .int u3), (4, .int m4)] → W p l e (xrm 7) s m args below meth c H locs 0 0 (MQ below (xqi D cy shMod ad r9 S9 A) args s 0 0 A) (F0 m 80 ls []) := by
  intro n
  induction n with
  | zero => intro m4 S H locs ls hf; cases hf
  | succ n ih =>
    intro m4 S H locs ls hf h hl
    rw [f_X9_fishAfter_L80] at hf
    refine lv_iload E.1 E.2.1 dX9_fishAfter_80 (lv_at hl 4 rfl) ?_
    refine lv_sipush (v := 186) E.1 E.2.1 dX9_fishAfter_82 (by decide) ?_
    refine x_br hf (lv_icmp_ge (tgt := 108) E.1 E.2.1 dX9_fishAfter_85 (by decide)) (fun hf => ?_) (fun hf => ?_)
    · exact hk _ _ _ _ _ hf h (lv_sub hl [0, 1, 2, 3, 4] rfl)
    · refine lv_aload_n E.1 E.2.1 dX9_fishAfter_88 rfl (lv_at hl 0 rfl) ?_
      refine x_getr E h 0 0 1 rfl rfl rfl (by decide) xinX9 kw1610 dX9_fishAfter_89 ?_
      refine lv_iload E.1 E.2.1 dX9_fishAfter_92 (lv_at hl 4 rfl) ?_
      refine lv_aload_n E.1 E.2.1 dX9_fishAfter_94 rfl (lv_at hl 0 rfl) ?_
      refine x_getr E h 0 2 3 rfl rfl rfl (by decide) xinX9 kw1612 dX9_fishAfter_95 ?_
      refine lv_iload E.1 E.2.1 dX9_fishAfter_98 (lv_at hl 4 rfl) ?_
      refine x_iald E h 3 hf rfl dX9_fishAfter_100 (fun v14 hf => ?_)
      refine x_iast E h 1 hf rfl dX9_fishAfter_101 (fun S15 H locs hf h => ?_)
      refine x_nv hf (fun v17 e9 hf => ?_)
      refine lv_iinc (v := v17) (lv' := [(4, .int v17), (0, .ref (ad 0)), (1, .int u1), (2, .int u2), (3, .int u3)]) E.1 E.2.1 dX9_fishAfter_102 hl (k := 4) rfl (by rw [e9]; rfl) (by decide) rfl (fun ls hl => ?_)
      refine lv_goto (tgt := 80) E.1 E.2.1 dX9_fishAfter_105 (by decide) ?_
      exact ih _ _ _ _ _ hf h (lv_sub hl [1, 2, 3, 4, 0] rfl)
set_option maxHeartbeats 4000000 in
set_option maxRecDepth 100000 in
theorem c_X9_fishAfter (l : Launch) (D : va_G) (cy : Nat → ClassId) (s00 : State) (ad : Nat → Nat) (S : XS) (p0 p1 : Int32) (r9 : Int32) (S9 : XS) (hf : f_X9_fishAfter S p0 p1 = some (r9, S9)) : XI l yX9_fishAfter cX9_fishAfter 5 (some .int) 7 D cy s00 shMod ad S [.ref (ad 0), .int p0, .int p1] r9 S9 := by
  refine XI.of (by decide) [(0, .ref (ad 0)), (1, .int p0), (2, .int p1)] rfl (Nat.le_of_ble_eq_true rfl) (fun p e s m args below meth c A ls E h hl => ?_)
  unfold f_X9_fishAfter at hf
  refine lv_aload_n E.1 E.2.1 dX9_fishAfter_0 rfl (lv_at hl 0 rfl) ?_
  refine lv_aload_n E.1 E.2.1 dX9_fishAfter_1 rfl (lv_at hl 0 rfl) ?_
  refine lv_iload_n E.1 E.2.1 dX9_fishAfter_2 rfl (lv_at hl 1 rfl) ?_
  refine x_callp E h hl 0 hf (fun r0 hr => c_X9_isCat l D cy s00 _ S p0 r0 hr) m_X9_isCat rfl rfl kw1744 rfl rfl (Nat.le_of_ble_eq_true rfl) ⟨by decide, by decide⟩ ⟨Nat.zero_le _, Nat.zero_le _⟩ dX9_fishAfter_3 (fun v1 H locs hf h => ?_)
  refine x_brn hf (lv_if_ne (tgt := 13) E.1 E.2.1 dX9_fishAfter_6 (by decide)) (fun hf => ?_) (fun hf => ?_)
  · refine lv_iconst (v := 0) E.1 E.2.1 dX9_fishAfter_13 (by decide) ?_
    refine lv_iload_n E.1 E.2.1 dX9_fishAfter_14 rfl (lv_at hl 2 rfl) ?_
    refine lv_iconst (v := 0) E.1 E.2.1 dX9_fishAfter_15 (by decide) ?_
    refine lv_bipush (v := 30) E.1 E.2.1 dX9_fishAfter_16 (by decide) ?_
    refine x_callsp E h hl hf (fun r0 hr => c_X9_in l D cy s00 _ _ p1 0 30 r0 hr) m_X9_in kw1378 rfl rfl (Nat.le_of_ble_eq_true rfl) ⟨by decide, by decide⟩ ⟨Nat.zero_le _, Nat.zero_le _⟩ dX9_fishAfter_18 (fun v2 H locs hf h => ?_)
    refine x_brn hf (lv_if_ne (tgt := 28) E.1 E.2.1 dX9_fishAfter_21 (by decide)) (fun hf => ?_) (fun hf => ?_)
    · refine lv_iconst (v := 0) E.1 E.2.1 dX9_fishAfter_28 (by decide) ?_
      refine x_calli E h hl 0 hf (fun r0 Sq0 hr => c_X9_throwsOne_ l D cy s00 _ S 0 0 r0 Sq0 hr) m_X9_throwsOne_ rfl rfl kw1717 rfl rfl (Nat.le_of_ble_eq_true rfl) ⟨by decide, by decide⟩ ⟨Nat.zero_le _, Nat.zero_le _⟩ dX9_fishAfter_29 (fun v3 S4 H locs hf h => ?_)
      refine x_br hf (lv_if_eq (tgt := 37) E.1 E.2.1 dX9_fishAfter_32 (by decide)) (fun hf => ?_) (fun hf => ?_)
      · refine lv_iconst (v := 0) E.1 E.2.1 dX9_fishAfter_37 (by decide) ?_
        refine lv_istore_n (lv' := [(3, .int 0), (0, .ref (ad 0)), (1, .int p0), (2, .int p1)]) E.1 E.2.1 dX9_fishAfter_38 rfl hl (by decide) rfl (fun ls hl => ?_)
        refine w_X9_fishAfter_L39 E ?_ _ _ _ _ _ _ hf h (lv_sub hl [1, 2, 3, 0] rfl)
        intro v9 S10 H locs ls hf h hl
        refine lv_aload_n E.1 E.2.1 dX9_fishAfter_64 rfl (lv_at hl 0 rfl) ?_
        refine lv_iload_n E.1 E.2.1 dX9_fishAfter_65 rfl (lv_at hl 2 rfl) ?_
        refine x_calli E h hl 0 hf (fun r0 Sq0 hr => c_X9_passes l D cy s00 _ S10 p1 r0 Sq0 hr) m_X9_passes rfl rfl kw1585 rfl rfl (Nat.le_of_ble_eq_true rfl) ⟨by decide, by decide⟩ ⟨Nat.zero_le _, Nat.zero_le _⟩ dX9_fishAfter_66 (fun v11 S12 H locs hf h => ?_)
        refine lv_pop E.1 E.2.1 dX9_fishAfter_69 rfl ?_
        refine lv_aload_n E.1 E.2.1 dX9_fishAfter_70 rfl (lv_at hl 0 rfl) ?_
        refine lv_iload_n E.1 E.2.1 dX9_fishAfter_71 rfl (lv_at hl 1 rfl) ?_
        refine lv_iconst (v := 2) E.1 E.2.1 dX9_fishAfter_72 (by decide) ?_
        refine x_callp E h hl 0 hf (fun r0 hr => c_X9_of l D cy s00 _ S12 p0 2 r0 hr) m_X9_of rfl rfl kw1429 rfl rfl (Nat.le_of_ble_eq_true rfl) ⟨by decide, by decide⟩ ⟨Nat.zero_le _, Nat.zero_le _⟩ dX9_fishAfter_73 (fun v13 H locs hf h => ?_)
        refine lv_istore_n (lv' := [(3, .int v13), (0, .ref (ad 0)), (1, .int p0), (2, .int p1)]) E.1 E.2.1 dX9_fishAfter_76 rfl hl (by decide) rfl (fun ls hl => ?_)
        refine lv_iconst (v := 0) E.1 E.2.1 dX9_fishAfter_77 (by decide) ?_
        refine lv_istore (lv' := [(4, .int 0), (3, .int v13), (0, .ref (ad 0)), (1, .int p0), (2, .int p1)]) E.1 E.2.1 dX9_fishAfter_78 hl (by decide) rfl (fun ls hl => ?_)
        refine w_X9_fishAfter_L80 E ?_ _ _ _ _ _ _ hf h (lv_sub hl [2, 3, 4, 1, 0] rfl)
        intro v18 S19 H locs ls hf h hl
        refine lv_iload_n E.1 E.2.1 dX9_fishAfter_108 rfl (lv_at hl 3 rfl) ?_
        exact x_iret E h hf dX9_fishAfter_109
      · refine lv_iconst (v := 0) E.1 E.2.1 dX9_fishAfter_35 (by decide) ?_
        exact x_iret E h hf dX9_fishAfter_36
    · refine lv_iconst (v := 1) E.1 E.2.1 dX9_fishAfter_24 (by decide) ?_
      refine lv_goto (tgt := 29) E.1 E.2.1 dX9_fishAfter_25 (by decide) ?_
      refine x_calli E h hl 0 hf (fun r0 Sq0 hr => c_X9_throwsOne_ l D cy s00 _ S 0 1 r0 Sq0 hr) m_X9_throwsOne_ rfl rfl kw1717 rfl rfl (Nat.le_of_ble_eq_true rfl) ⟨by decide, by decide⟩ ⟨Nat.zero_le _, Nat.zero_le _⟩ dX9_fishAfter_29 (fun v20 S21 H locs hf h => ?_)
      refine x_br hf (lv_if_eq (tgt := 37) E.1 E.2.1 dX9_fishAfter_32 (by decide)) (fun hf => ?_) (fun hf => ?_)
      · refine lv_iconst (v := 0) E.1 E.2.1 dX9_fishAfter_37 (by decide) ?_
        refine lv_istore_n (lv' := [(3, .int 0), (0, .ref (ad 0)), (1, .int p0), (2, .int p1)]) E.1 E.2.1 dX9_fishAfter_38 rfl hl (by decide) rfl (fun ls hl => ?_)
        refine w_X9_fishAfter_L39 E ?_ _ _ _ _ _ _ hf h (lv_sub hl [1, 2, 3, 0] rfl)
        intro v22 S23 H locs ls hf h hl
        refine lv_aload_n E.1 E.2.1 dX9_fishAfter_64 rfl (lv_at hl 0 rfl) ?_
        refine lv_iload_n E.1 E.2.1 dX9_fishAfter_65 rfl (lv_at hl 2 rfl) ?_
        refine x_calli E h hl 0 hf (fun r0 Sq0 hr => c_X9_passes l D cy s00 _ S23 p1 r0 Sq0 hr) m_X9_passes rfl rfl kw1585 rfl rfl (Nat.le_of_ble_eq_true rfl) ⟨by decide, by decide⟩ ⟨Nat.zero_le _, Nat.zero_le _⟩ dX9_fishAfter_66 (fun v24 S25 H locs hf h => ?_)
        refine lv_pop E.1 E.2.1 dX9_fishAfter_69 rfl ?_
        refine lv_aload_n E.1 E.2.1 dX9_fishAfter_70 rfl (lv_at hl 0 rfl) ?_
        refine lv_iload_n E.1 E.2.1 dX9_fishAfter_71 rfl (lv_at hl 1 rfl) ?_
        refine lv_iconst (v := 2) E.1 E.2.1 dX9_fishAfter_72 (by decide) ?_
        refine x_callp E h hl 0 hf (fun r0 hr => c_X9_of l D cy s00 _ S25 p0 2 r0 hr) m_X9_of rfl rfl kw1429 rfl rfl (Nat.le_of_ble_eq_true rfl) ⟨by decide, by decide⟩ ⟨Nat.zero_le _, Nat.zero_le _⟩ dX9_fishAfter_73 (fun v26 H locs hf h => ?_)
        refine lv_istore_n (lv' := [(3, .int v26), (0, .ref (ad 0)), (1, .int p0), (2, .int p1)]) E.1 E.2.1 dX9_fishAfter_76 rfl hl (by decide) rfl (fun ls hl => ?_)
        refine lv_iconst (v := 0) E.1 E.2.1 dX9_fishAfter_77 (by decide) ?_
        refine lv_istore (lv' := [(4, .int 0), (3, .int v26), (0, .ref (ad 0)), (1, .int p0), (2, .int p1)]) E.1 E.2.1 dX9_fishAfter_78 hl (by decide) rfl (fun ls hl => ?_)
        refine w_X9_fishAfter_L80 E ?_ _ _ _ _ _ _ hf h (lv_sub hl [2, 3, 4, 1, 0] rfl)
        intro v27 S28 H locs ls hf h hl
        refine lv_iload_n E.1 E.2.1 dX9_fishAfter_108 rfl (lv_at hl 3 rfl) ?_
        exact x_iret E h hf dX9_fishAfter_109
      · refine lv_iconst (v := 0) E.1 E.2.1 dX9_fishAfter_35 (by decide) ?_
        exact x_iret E h hf dX9_fishAfter_36
  · refine lv_iconst (v := 1) E.1 E.2.1 dX9_fishAfter_9 (by decide) ?_
    refine lv_goto (tgt := 14) E.1 E.2.1 dX9_fishAfter_10 (by decide) ?_
    refine lv_iload_n E.1 E.2.1 dX9_fishAfter_14 rfl (lv_at hl 2 rfl) ?_
    refine lv_iconst (v := 0) E.1 E.2.1 dX9_fishAfter_15 (by decide) ?_
    refine lv_bipush (v := 30) E.1 E.2.1 dX9_fishAfter_16 (by decide) ?_
    refine x_callsp E h hl hf (fun r0 hr => c_X9_in l D cy s00 _ _ p1 0 30 r0 hr) m_X9_in kw1378 rfl rfl (Nat.le_of_ble_eq_true rfl) ⟨by decide, by decide⟩ ⟨Nat.zero_le _, Nat.zero_le _⟩ dX9_fishAfter_18 (fun v29 H locs hf h => ?_)
    refine x_brn hf (lv_if_ne (tgt := 28) E.1 E.2.1 dX9_fishAfter_21 (by decide)) (fun hf => ?_) (fun hf => ?_)
    · refine lv_iconst (v := 0) E.1 E.2.1 dX9_fishAfter_28 (by decide) ?_
      refine x_calli E h hl 0 hf (fun r0 Sq0 hr => c_X9_throwsOne_ l D cy s00 _ S 1 0 r0 Sq0 hr) m_X9_throwsOne_ rfl rfl kw1717 rfl rfl (Nat.le_of_ble_eq_true rfl) ⟨by decide, by decide⟩ ⟨Nat.zero_le _, Nat.zero_le _⟩ dX9_fishAfter_29 (fun v30 S31 H locs hf h => ?_)
      refine x_br hf (lv_if_eq (tgt := 37) E.1 E.2.1 dX9_fishAfter_32 (by decide)) (fun hf => ?_) (fun hf => ?_)
      · refine lv_iconst (v := 0) E.1 E.2.1 dX9_fishAfter_37 (by decide) ?_
        refine lv_istore_n (lv' := [(3, .int 0), (0, .ref (ad 0)), (1, .int p0), (2, .int p1)]) E.1 E.2.1 dX9_fishAfter_38 rfl hl (by decide) rfl (fun ls hl => ?_)
        refine w_X9_fishAfter_L39 E ?_ _ _ _ _ _ _ hf h (lv_sub hl [1, 2, 3, 0] rfl)
        intro v32 S33 H locs ls hf h hl
        refine lv_aload_n E.1 E.2.1 dX9_fishAfter_64 rfl (lv_at hl 0 rfl) ?_
        refine lv_iload_n E.1 E.2.1 dX9_fishAfter_65 rfl (lv_at hl 2 rfl) ?_
        refine x_calli E h hl 0 hf (fun r0 Sq0 hr => c_X9_passes l D cy s00 _ S33 p1 r0 Sq0 hr) m_X9_passes rfl rfl kw1585 rfl rfl (Nat.le_of_ble_eq_true rfl) ⟨by decide, by decide⟩ ⟨Nat.zero_le _, Nat.zero_le _⟩ dX9_fishAfter_66 (fun v34 S35 H locs hf h => ?_)
        refine lv_pop E.1 E.2.1 dX9_fishAfter_69 rfl ?_
        refine lv_aload_n E.1 E.2.1 dX9_fishAfter_70 rfl (lv_at hl 0 rfl) ?_
        refine lv_iload_n E.1 E.2.1 dX9_fishAfter_71 rfl (lv_at hl 1 rfl) ?_
        refine lv_iconst (v := 2) E.1 E.2.1 dX9_fishAfter_72 (by decide) ?_
        refine x_callp E h hl 0 hf (fun r0 hr => c_X9_of l D cy s00 _ S35 p0 2 r0 hr) m_X9_of rfl rfl kw1429 rfl rfl (Nat.le_of_ble_eq_true rfl) ⟨by decide, by decide⟩ ⟨Nat.zero_le _, Nat.zero_le _⟩ dX9_fishAfter_73 (fun v36 H locs hf h => ?_)
        refine lv_istore_n (lv' := [(3, .int v36), (0, .ref (ad 0)), (1, .int p0), (2, .int p1)]) E.1 E.2.1 dX9_fishAfter_76 rfl hl (by decide) rfl (fun ls hl => ?_)
        refine lv_iconst (v := 0) E.1 E.2.1 dX9_fishAfter_77 (by decide) ?_
        refine lv_istore (lv' := [(4, .int 0), (3, .int v36), (0, .ref (ad 0)), (1, .int p0), (2, .int p1)]) E.1 E.2.1 dX9_fishAfter_78 hl (by decide) rfl (fun ls hl => ?_)
        refine w_X9_fishAfter_L80 E ?_ _ _ _ _ _ _ hf h (lv_sub hl [2, 3, 4, 1, 0] rfl)
        intro v37 S38 H locs ls hf h hl
        refine lv_iload_n E.1 E.2.1 dX9_fishAfter_108 rfl (lv_at hl 3 rfl) ?_
        exact x_iret E h hf dX9_fishAfter_109
      · refine lv_iconst (v := 0) E.1 E.2.1 dX9_fishAfter_35 (by decide) ?_
        exact x_iret E h hf dX9_fishAfter_36
    · refine lv_iconst (v := 1) E.1 E.2.1 dX9_fishAfter_24 (by decide) ?_
      refine lv_goto (tgt := 29) E.1 E.2.1 dX9_fishAfter_25 (by decide) ?_
      refine x_calli E h hl 0 hf (fun r0 Sq0 hr => c_X9_throwsOne_ l D cy s00 _ S 1 1 r0 Sq0 hr) m_X9_throwsOne_ rfl rfl kw1717 rfl rfl (Nat.le_of_ble_eq_true rfl) ⟨by decide, by decide⟩ ⟨Nat.zero_le _, Nat.zero_le _⟩ dX9_fishAfter_29 (fun v39 S40 H locs hf h => ?_)
      refine x_br hf (lv_if_eq (tgt := 37) E.1 E.2.1 dX9_fishAfter_32 (by decide)) (fun hf => ?_) (fun hf => ?_)
      · refine lv_iconst (v := 0) E.1 E.2.1 dX9_fishAfter_37 (by decide) ?_
        refine lv_istore_n (lv' := [(3, .int 0), (0, .ref (ad 0)), (1, .int p0), (2, .int p1)]) E.1 E.2.1 dX9_fishAfter_38 rfl hl (by decide) rfl (fun ls hl => ?_)
        refine w_X9_fishAfter_L39 E ?_ _ _ _ _ _ _ hf h (lv_sub hl [1, 2, 3, 0] rfl)
        intro v41 S42 H locs ls hf h hl
        refine lv_aload_n E.1 E.2.1 dX9_fishAfter_64 rfl (lv_at hl 0 rfl) ?_
        refine lv_iload_n E.1 E.2.1 dX9_fishAfter_65 rfl (lv_at hl 2 rfl) ?_
        refine x_calli E h hl 0 hf (fun r0 Sq0 hr => c_X9_passes l D cy s00 _ S42 p1 r0 Sq0 hr) m_X9_passes rfl rfl kw1585 rfl rfl (Nat.le_of_ble_eq_true rfl) ⟨by decide, by decide⟩ ⟨Nat.zero_le _, Nat.zero_le _⟩ dX9_fishAfter_66 (fun v43 S44 H locs hf h => ?_)
        refine lv_pop E.1 E.2.1 dX9_fishAfter_69 rfl ?_
        refine lv_aload_n E.1 E.2.1 dX9_fishAfter_70 rfl (lv_at hl 0 rfl) ?_
        refine lv_iload_n E.1 E.2.1 dX9_fishAfter_71 rfl (lv_at hl 1 rfl) ?_
        refine lv_iconst (v := 2) E.1 E.2.1 dX9_fishAfter_72 (by decide) ?_
        refine x_callp E h hl 0 hf (fun r0 hr => c_X9_of l D cy s00 _ S44 p0 2 r0 hr) m_X9_of rfl rfl kw1429 rfl rfl (Nat.le_of_ble_eq_true rfl) ⟨by decide, by decide⟩ ⟨Nat.zero_le _, Nat.zero_le _⟩ dX9_fishAfter_73 (fun v45 H locs hf h => ?_)
        refine lv_istore_n (lv' := [(3, .int v45), (0, .ref (ad 0)), (1, .int p0), (2, .int p1)]) E.1 E.2.1 dX9_fishAfter_76 rfl hl (by decide) rfl (fun ls hl => ?_)
        refine lv_iconst (v := 0) E.1 E.2.1 dX9_fishAfter_77 (by decide) ?_
        refine lv_istore (lv' := [(4, .int 0), (3, .int v45), (0, .ref (ad 0)), (1, .int p0), (2, .int p1)]) E.1 E.2.1 dX9_fishAfter_78 hl (by decide) rfl (fun ls hl => ?_)
        refine w_X9_fishAfter_L80 E ?_ _ _ _ _ _ _ hf h (lv_sub hl [2, 3, 4, 1, 0] rfl)
        intro v46 S47 H locs ls hf h hl
        refine lv_iload_n E.1 E.2.1 dX9_fishAfter_108 rfl (lv_at hl 3 rfl) ?_
        exact x_iret E h hf dX9_fishAfter_109
      · refine lv_iconst (v := 0) E.1 E.2.1 dX9_fishAfter_35 (by decide) ?_
        exact x_iret E h hf dX9_fishAfter_36
set_option maxHeartbeats 4000000 in
set_option maxRecDepth 100000 in
theorem w_X9_richestCat_L9 {p : Program} {l : Launch} {e : Env} {s : State} {m : MethodId} {args : Array Value} {below : List Frame} {meth : Method} {c : Code} {D : va_G} {cy : Nat → ClassId} {s00 : State} {ad : Nat → Nat} {A : Nat → Prop}  {r9 : Int32} {S9 : XS}  {S : XS} {K : Int32 → Int32 → Option (Int32 × XS)} (E : XE p s m args meth c cX9_richestCat 3 RX9 (some .int) D cy s00) (hk : ∀ (m1 m2 : Int32) (H : Heap) (locs : List Loc) (ls : Array Slot), K m1 m2 = some (r9, S9) → XH D cy s00 shMod ad S A s H locs → lv_has ls 3 [(0, .ref (ad 0)), (1, .int m1), (2, .int m2)] → W p l e (xrm 1) s m args below meth c H locs 0 0 (MQ below (xqi D cy shMod ad r9 S9 A) args s 0 0 A) (F0 m 47 ls [])) :
    ∀ (n : Nat) (m1 m2 : Int32) (H : Heap) (locs : List Loc) (ls : Array Slot), f_X9_richestCat_L9 K S n m1 m2 = some (r9, S9) → XH D cy s00 shMod ad S A s H locs → lv_has ls 3 [(0, .ref (ad 0)), (1, .int m1), (2, .int m2)] → W p l e (xrm 1) s m args below meth c H locs 0 0 (MQ below (xqi D cy shMod ad r9 S9 A) args s 0 0 A) (F0 m 9 ls []) := by
  intro n
  induction n with
  | zero => intro m1 m2 H locs ls hf; cases hf
  | succ n ih =>
    intro m1 m2 H locs ls hf h hl
    rw [f_X9_richestCat_L9] at hf
    refine lv_iload_n E.1 E.2.1 dX9_richestCat_9 rfl (lv_at hl 2 rfl) ?_
    refine lv_aload_n E.1 E.2.1 dX9_richestCat_10 rfl (lv_at hl 0 rfl) ?_
    refine x_getr E h 0 0 1 rfl rfl rfl (by decide) xinX9 kw1610 dX9_richestCat_11 ?_
    refine lv_iconst (v := 2) E.1 E.2.1 dX9_richestCat_14 (by decide) ?_
    refine x_iald E h 1 hf rfl dX9_richestCat_15 (fun v2 hf => ?_)
    refine x_br hf (lv_icmp_ge (tgt := 47) E.1 E.2.1 dX9_richestCat_16 (by decide)) (fun hf => ?_) (fun hf => ?_)
    · exact hk _ _ _ _ _ hf h (lv_sub hl [0, 1, 2] rfl)
    · refine lv_iload_n E.1 E.2.1 dX9_richestCat_19 rfl (lv_at hl 1 rfl) ?_
      refine lv_iconst (v := (-1)) E.1 E.2.1 dX9_richestCat_20 (by decide) ?_
      refine x_br hf (lv_icmp_eq (tgt := 39) E.1 E.2.1 dX9_richestCat_21 (by decide)) (fun hf => ?_) (fun hf => ?_)
      · refine lv_iload_n E.1 E.2.1 dX9_richestCat_39 rfl (lv_at hl 2 rfl) ?_
        refine lv_istore_n (lv' := [(1, .int m2), (0, .ref (ad 0)), (2, .int m2)]) E.1 E.2.1 dX9_richestCat_40 rfl hl (by decide) rfl (fun ls hl => ?_)
        refine x_nv hf (fun v3 e9 hf => ?_)
        refine lv_iinc (v := v3) (lv' := [(2, .int v3), (1, .int m2), (0, .ref (ad 0))]) E.1 E.2.1 dX9_richestCat_41 hl (k := 2) rfl (by rw [e9]; rfl) (by decide) rfl (fun ls hl => ?_)
        refine lv_goto (tgt := 9) E.1 E.2.1 dX9_richestCat_44 (by decide) ?_
        exact ih _ _ _ _ _ hf h (lv_sub hl [2, 1, 0] rfl)
      · refine lv_aload_n E.1 E.2.1 dX9_richestCat_24 rfl (lv_at hl 0 rfl) ?_
        refine lv_iload_n E.1 E.2.1 dX9_richestCat_25 rfl (lv_at hl 2 rfl) ?_
        refine lv_iconst (v := 2) E.1 E.2.1 dX9_richestCat_26 (by decide) ?_
        refine x_callp E h hl 0 hf (fun r0 hr => c_X9_of l D cy s00 _ S m2 2 r0 hr) m_X9_of rfl rfl kw1429 rfl rfl (Nat.le_of_ble_eq_true rfl) ⟨by decide, by decide⟩ ⟨Nat.zero_le _, Nat.zero_le _⟩ dX9_richestCat_27 (fun v4 H locs hf h => ?_)
        refine lv_aload_n E.1 E.2.1 dX9_richestCat_30 rfl (lv_at hl 0 rfl) ?_
        refine lv_iload_n E.1 E.2.1 dX9_richestCat_31 rfl (lv_at hl 1 rfl) ?_
        refine lv_iconst (v := 2) E.1 E.2.1 dX9_richestCat_32 (by decide) ?_
        refine x_callp E h hl 0 hf (fun r0 hr => c_X9_of l D cy s00 _ S m1 2 r0 hr) m_X9_of rfl rfl kw1429 rfl rfl (Nat.le_of_ble_eq_true rfl) ⟨by decide, by decide⟩ ⟨Nat.zero_le _, Nat.zero_le _⟩ dX9_richestCat_33 (fun v5 H locs hf h => ?_)
        refine x_br hf (lv_icmp_le (tgt := 41) E.1 E.2.1 dX9_richestCat_36 (by decide)) (fun hf => ?_) (fun hf => ?_)
        · refine x_nv hf (fun v6 e9 hf => ?_)
          refine lv_iinc (v := v6) (lv' := [(2, .int v6), (0, .ref (ad 0)), (1, .int m1)]) E.1 E.2.1 dX9_richestCat_41 hl (k := 2) rfl (by rw [e9]; rfl) (by decide) rfl (fun ls hl => ?_)
          refine lv_goto (tgt := 9) E.1 E.2.1 dX9_richestCat_44 (by decide) ?_
          exact ih _ _ _ _ _ hf h (lv_sub hl [1, 2, 0] rfl)
        · refine lv_iload_n E.1 E.2.1 dX9_richestCat_39 rfl (lv_at hl 2 rfl) ?_
          refine lv_istore_n (lv' := [(1, .int m2), (0, .ref (ad 0)), (2, .int m2)]) E.1 E.2.1 dX9_richestCat_40 rfl hl (by decide) rfl (fun ls hl => ?_)
          refine x_nv hf (fun v7 e9 hf => ?_)
          refine lv_iinc (v := v7) (lv' := [(2, .int v7), (1, .int m2), (0, .ref (ad 0))]) E.1 E.2.1 dX9_richestCat_41 hl (k := 2) rfl (by rw [e9]; rfl) (by decide) rfl (fun ls hl => ?_)
          refine lv_goto (tgt := 9) E.1 E.2.1 dX9_richestCat_44 (by decide) ?_
          exact ih _ _ _ _ _ hf h (lv_sub hl [2, 1, 0] rfl)
set_option maxHeartbeats 4000000 in
set_option maxRecDepth 100000 in
theorem c_X9_richestCat (l : Launch) (D : va_G) (cy : Nat → ClassId) (s00 : State) (ad : Nat → Nat) (S : XS) (r9 : Int32) (S9 : XS) (hf : f_X9_richestCat S = some (r9, S9)) : XI l yX9_richestCat cX9_richestCat 3 (some .int) 1 D cy s00 shMod ad S [.ref (ad 0)] r9 S9 := by
  refine XI.of (by decide) [(0, .ref (ad 0))] rfl (Nat.le_of_ble_eq_true rfl) (fun p e s m args below meth c A ls E h hl => ?_)
  unfold f_X9_richestCat at hf
  refine lv_aload_n E.1 E.2.1 dX9_richestCat_0 rfl (lv_at hl 0 rfl) ?_
  refine lv_iconst (v := 0) E.1 E.2.1 dX9_richestCat_1 (by decide) ?_
  refine x_put (ty := .int) E h 0 16 hf rfl rfl rfl (by decide) xinX9 tyX9_ok nmX9 kw1626 rfl (by decide +kernel) rfl rfl dX9_richestCat_2 (fun S1 H locs hf h => ?_)
  refine lv_iconst (v := (-1)) E.1 E.2.1 dX9_richestCat_5 (by decide) ?_
  refine lv_istore_n (lv' := [(1, .int (-1)), (0, .ref (ad 0))]) E.1 E.2.1 dX9_richestCat_6 rfl hl (by decide) rfl (fun ls hl => ?_)
  refine lv_iconst (v := 0) E.1 E.2.1 dX9_richestCat_7 (by decide) ?_
  refine lv_istore_n (lv' := [(2, .int 0), (1, .int (-1)), (0, .ref (ad 0))]) E.1 E.2.1 dX9_richestCat_8 rfl hl (by decide) rfl (fun ls hl => ?_)
  refine w_X9_richestCat_L9 E ?_ _ _ _ _ _ _ hf h (lv_sub hl [2, 1, 0] rfl)
  intro v8 v9 H locs ls hf h hl
  refine lv_iload_n E.1 E.2.1 dX9_richestCat_47 rfl (lv_at hl 1 rfl) ?_
  exact x_iret E h hf dX9_richestCat_48
set_option maxHeartbeats 4000000 in
set_option maxRecDepth 100000 in
theorem w_X9_allFish_L4 {p : Program} {l : Launch} {e : Env} {s : State} {m : MethodId} {args : Array Value} {below : List Frame} {meth : Method} {c : Code} {D : va_G} {cy : Nat → ClassId} {s00 : State} {ad : Nat → Nat} {A : Nat → Prop}  {r9 : Int32}  {S : XS} {K : Int32 → Int32 → Option (Int32)} (E : XE p s m args meth c cX9_allFish 3 RX9 (some .int) D cy s00) (hk : ∀ (m1 m2 : Int32) (H : Heap) (locs : List Loc) (ls : Array Slot), K m1 m2 = some r9 → XH D cy s00 shMod ad S A s H locs → lv_has ls 3 [(0, .ref (ad 0)), (1, .int m1), (2, .int m2)] → W p l e (xrm 1) s m args below meth c H locs 0 0 (MQ below (xqi D cy shMod ad r9 S A) args s 0 0 A) (F0 m 29 ls [])) :
    ∀ (n : Nat) (m1 m2 : Int32) (H : Heap) (locs : List Loc) (ls : Array Slot), f_X9_allFish_L4 K S n m1 m2 = some r9 → XH D cy s00 shMod ad S A s H locs → lv_has ls 3 [(0, .ref (ad 0)), (1, .int m1), (2, .int m2)] → W p l e (xrm 1) s m args below meth c H locs 0 0 (MQ below (xqi D cy shMod ad r9 S A) args s 0 0 A) (F0 m 4 ls []) := by
  intro n
  induction n with
  | zero => intro m1 m2 H locs ls hf; cases hf
  | succ n ih =>
    intro m1 m2 H locs ls hf h hl
    rw [f_X9_allFish_L4] at hf
    refine lv_iload_n E.1 E.2.1 dX9_allFish_4 rfl (lv_at hl 2 rfl) ?_
    refine lv_aload_n E.1 E.2.1 dX9_allFish_5 rfl (lv_at hl 0 rfl) ?_
    refine x_getr E h 0 0 1 rfl rfl rfl (by decide) xinX9 kw1610 dX9_allFish_6 ?_
    refine lv_iconst (v := 2) E.1 E.2.1 dX9_allFish_9 (by decide) ?_
    refine x_iald E h 1 hf rfl dX9_allFish_10 (fun v1 hf => ?_)
    refine x_br hf (lv_icmp_ge (tgt := 29) E.1 E.2.1 dX9_allFish_11 (by decide)) (fun hf => ?_) (fun hf => ?_)
    · exact hk _ _ _ _ _ hf h (lv_sub hl [0, 1, 2] rfl)
    · refine lv_iload_n E.1 E.2.1 dX9_allFish_14 rfl (lv_at hl 1 rfl) ?_
      refine lv_aload_n E.1 E.2.1 dX9_allFish_15 rfl (lv_at hl 0 rfl) ?_
      refine lv_iload_n E.1 E.2.1 dX9_allFish_16 rfl (lv_at hl 2 rfl) ?_
      refine lv_iconst (v := 2) E.1 E.2.1 dX9_allFish_17 (by decide) ?_
      refine x_callp E h hl 0 hf (fun r0 hr => c_X9_of l D cy s00 _ S m2 2 r0 hr) m_X9_of rfl rfl kw1429 rfl rfl (Nat.le_of_ble_eq_true rfl) ⟨by decide, by decide⟩ ⟨Nat.zero_le _, Nat.zero_le _⟩ dX9_allFish_18 (fun v2 H locs hf h => ?_)
      refine lv_iadd E.1 E.2.1 dX9_allFish_21 ?_
      refine x_nm hf (fun v3 hf => ?_)
      refine lv_istore_n (lv' := [(1, .int v3), (0, .ref (ad 0)), (2, .int m2)]) E.1 E.2.1 dX9_allFish_22 rfl hl (by decide) rfl (fun ls hl => ?_)
      refine x_nv hf (fun v4 e9 hf => ?_)
      refine lv_iinc (v := v4) (lv' := [(2, .int v4), (1, .int v3), (0, .ref (ad 0))]) E.1 E.2.1 dX9_allFish_23 hl (k := 2) rfl (by rw [e9]; rfl) (by decide) rfl (fun ls hl => ?_)
      refine lv_goto (tgt := 4) E.1 E.2.1 dX9_allFish_26 (by decide) ?_
      exact ih _ _ _ _ _ hf h (lv_sub hl [2, 1, 0] rfl)
set_option maxHeartbeats 4000000 in
set_option maxRecDepth 100000 in
theorem c_X9_allFish (l : Launch) (D : va_G) (cy : Nat → ClassId) (s00 : State) (ad : Nat → Nat) (S : XS) (r9 : Int32) (hf : f_X9_allFish S = some r9) : XI l yX9_allFish cX9_allFish 3 (some .int) 1 D cy s00 shMod ad S [.ref (ad 0)] r9 S := by
  refine XI.of (by decide) [(0, .ref (ad 0))] rfl (Nat.le_of_ble_eq_true rfl) (fun p e s m args below meth c A ls E h hl => ?_)
  unfold f_X9_allFish at hf
  refine lv_iconst (v := 0) E.1 E.2.1 dX9_allFish_0 (by decide) ?_
  refine lv_istore_n (lv' := [(1, .int 0), (0, .ref (ad 0))]) E.1 E.2.1 dX9_allFish_1 rfl hl (by decide) rfl (fun ls hl => ?_)
  refine lv_iconst (v := 0) E.1 E.2.1 dX9_allFish_2 (by decide) ?_
  refine lv_istore_n (lv' := [(2, .int 0), (1, .int 0), (0, .ref (ad 0))]) E.1 E.2.1 dX9_allFish_3 rfl hl (by decide) rfl (fun ls hl => ?_)
  refine w_X9_allFish_L4 E ?_ _ _ _ _ _ _ hf h (lv_sub hl [2, 1, 0] rfl)
  intro v5 v6 H locs ls hf h hl
  refine lv_iload_n E.1 E.2.1 dX9_allFish_29 rfl (lv_at hl 1 rfl) ?_
  exact x_irp E h hf dX9_allFish_30
set_option maxHeartbeats 4000000 in
set_option maxRecDepth 100000 in
theorem c_X9_totalFish (l : Launch) (D : va_G) (cy : Nat → ClassId) (s00 : State) (ad : Nat → Nat) (S : XS) (r9 : Int32) (S9 : XS) (hf : f_X9_totalFish S = some (r9, S9)) : XI l yX9_totalFish cX9_totalFish 1 (some .int) 2 D cy s00 shMod ad S [.ref (ad 0)] r9 S9 := by
  refine XI.of (by decide) [(0, .ref (ad 0))] rfl (Nat.le_of_ble_eq_true rfl) (fun p e s m args below meth c A ls E h hl => ?_)
  unfold f_X9_totalFish at hf
  refine lv_aload_n E.1 E.2.1 dX9_totalFish_0 rfl (lv_at hl 0 rfl) ?_
  refine lv_iconst (v := 0) E.1 E.2.1 dX9_totalFish_1 (by decide) ?_
  refine x_put (ty := .int) E h 0 16 hf rfl rfl rfl (by decide) xinX9 tyX9_ok nmX9 kw1626 rfl (by decide +kernel) rfl rfl dX9_totalFish_2 (fun S1 H locs hf h => ?_)
  refine lv_aload_n E.1 E.2.1 dX9_totalFish_5 rfl (lv_at hl 0 rfl) ?_
  refine x_callp E h hl 0 hf (fun r0 hr => c_X9_allFish l D cy s00 _ S1  r0 hr) m_X9_allFish rfl rfl kw1972 rfl rfl (Nat.le_of_ble_eq_true rfl) ⟨by decide, by decide⟩ ⟨Nat.zero_le _, Nat.zero_le _⟩ dX9_totalFish_6 (fun v2 H locs hf h => ?_)
  exact x_iret E h hf dX9_totalFish_9
set_option maxHeartbeats 4000000 in
set_option maxRecDepth 100000 in
theorem c_X9_meanFish (l : Launch) (D : va_G) (cy : Nat → ClassId) (s00 : State) (ad : Nat → Nat) (S : XS) (r9 : UInt64) (S9 : XS) (hf : f_X9_meanFish S = some (r9, S9)) : XD l yX9_meanFish cX9_meanFish 1 (some .double) 2 D cy s00 shMod ad S [.ref (ad 0)] r9 S9 := by
  refine XD.of (by decide) [(0, .ref (ad 0))] rfl (Nat.le_of_ble_eq_true rfl) (fun p e s m args below meth c A ls E h hl => ?_)
  unfold f_X9_meanFish at hf
  refine lv_aload_n E.1 E.2.1 dX9_meanFish_0 rfl (lv_at hl 0 rfl) ?_
  refine lv_iconst (v := 0) E.1 E.2.1 dX9_meanFish_1 (by decide) ?_
  refine x_put (ty := .int) E h 0 16 hf rfl rfl rfl (by decide) xinX9 tyX9_ok nmX9 kw1626 rfl (by decide +kernel) rfl rfl dX9_meanFish_2 (fun S1 H locs hf h => ?_)
  refine lv_aload_n E.1 E.2.1 dX9_meanFish_5 rfl (lv_at hl 0 rfl) ?_
  refine x_getr E h 0 0 1 rfl rfl rfl (by decide) xinX9 kw1610 dX9_meanFish_6 ?_
  refine lv_iconst (v := 2) E.1 E.2.1 dX9_meanFish_9 (by decide) ?_
  refine x_iald E h 1 hf rfl dX9_meanFish_10 (fun v2 hf => ?_)
  refine x_brn hf (lv_if_ne (tgt := 18) E.1 E.2.1 dX9_meanFish_11 (by decide)) (fun hf => ?_) (fun hf => ?_)
  · refine lv_aload_n E.1 E.2.1 dX9_meanFish_18 rfl (lv_at hl 0 rfl) ?_
    refine x_callp E h hl 0 hf (fun r0 hr => c_X9_allFish l D cy s00 _ S1  r0 hr) m_X9_allFish rfl rfl kw1972 rfl rfl (Nat.le_of_ble_eq_true rfl) ⟨by decide, by decide⟩ ⟨Nat.zero_le _, Nat.zero_le _⟩ dX9_meanFish_19 (fun v3 H locs hf h => ?_)
    refine lv_i2d E.1 E.2.1 dX9_meanFish_22 ?_
    refine lv_aload_n E.1 E.2.1 dX9_meanFish_23 rfl (lv_at hl 0 rfl) ?_
    refine x_getr E h 0 0 1 rfl rfl rfl (by decide) xinX9 kw1610 dX9_meanFish_24 ?_
    refine lv_iconst (v := 2) E.1 E.2.1 dX9_meanFish_27 (by decide) ?_
    refine x_iald E h 1 hf rfl dX9_meanFish_28 (fun v4 hf => ?_)
    refine lv_i2d E.1 E.2.1 dX9_meanFish_29 ?_
    obtain ⟨hn, hf⟩ := xdn_in hf
    refine lv_ddiv E.1 E.2.1 dX9_meanFish_30 hn ?_
    generalize FP.ddiv (FP.i2d v3) (FP.i2d v4) = v5 at hf ⊢
    exact x_dret E h hf dX9_meanFish_31
  · refine lv_dconst0 E.1 E.2.1 dX9_meanFish_14 ?_
    refine lv_goto (tgt := 31) E.1 E.2.1 dX9_meanFish_15 (by decide) ?_
    exact x_dret E h hf dX9_meanFish_31
set_option maxHeartbeats 4000000 in
set_option maxRecDepth 100000 in
theorem w_X9_ownedShare_L9 {p : Program} {l : Launch} {e : Env} {s : State} {m : MethodId} {args : Array Value} {below : List Frame} {meth : Method} {c : Code} {D : va_G} {cy : Nat → ClassId} {s00 : State} {ad : Nat → Nat} {A : Nat → Prop}  {r9 : UInt32} {S9 : XS}  {S : XS} {K : Int32 → Int32 → Option (UInt32 × XS)} (E : XE p s m args meth c cX9_ownedShare 3 RX9 (some .float) D cy s00) (hk : ∀ (m1 m2 : Int32) (H : Heap) (locs : List Loc) (ls : Array Slot), K m1 m2 = some (r9, S9) → XH D cy s00 shMod ad S A s H locs → lv_has ls 3 [(0, .ref (ad 0)), (1, .int m1), (2, .int m2)] → W p l e (xrm 1) s m args below meth c H locs 0 0 (MQ below (xqf D cy shMod ad r9 S9 A) args s 0 0 A) (F0 m 42 ls [])) :
    ∀ (n : Nat) (m1 m2 : Int32) (H : Heap) (locs : List Loc) (ls : Array Slot), f_X9_ownedShare_L9 K S n m1 m2 = some (r9, S9) → XH D cy s00 shMod ad S A s H locs → lv_has ls 3 [(0, .ref (ad 0)), (1, .int m1), (2, .int m2)] → W p l e (xrm 1) s m args below meth c H locs 0 0 (MQ below (xqf D cy shMod ad r9 S9 A) args s 0 0 A) (F0 m 9 ls []) := by
  intro n
  induction n with
  | zero => intro m1 m2 H locs ls hf; cases hf
  | succ n ih =>
    intro m1 m2 H locs ls hf h hl
    rw [f_X9_ownedShare_L9] at hf
    refine lv_iload_n E.1 E.2.1 dX9_ownedShare_9 rfl (lv_at hl 2 rfl) ?_
    refine lv_aload_n E.1 E.2.1 dX9_ownedShare_10 rfl (lv_at hl 0 rfl) ?_
    refine x_getr E h 0 0 1 rfl rfl rfl (by decide) xinX9 kw1610 dX9_ownedShare_11 ?_
    refine lv_iconst (v := 0) E.1 E.2.1 dX9_ownedShare_14 (by decide) ?_
    refine x_iald E h 1 hf rfl dX9_ownedShare_15 (fun v2 hf => ?_)
    refine x_br hf (lv_icmp_ge (tgt := 42) E.1 E.2.1 dX9_ownedShare_16 (by decide)) (fun hf => ?_) (fun hf => ?_)
    · exact hk _ _ _ _ _ hf h (lv_sub hl [0, 1, 2] rfl)
    · refine lv_iload_n E.1 E.2.1 dX9_ownedShare_19 rfl (lv_at hl 1 rfl) ?_
      refine lv_aload_n E.1 E.2.1 dX9_ownedShare_20 rfl (lv_at hl 0 rfl) ?_
      refine lv_iload_n E.1 E.2.1 dX9_ownedShare_21 rfl (lv_at hl 2 rfl) ?_
      refine x_callp E h hl 0 hf (fun r0 hr => c_X9_owner l D cy s00 _ S m2 r0 hr) m_X9_owner rfl rfl kw1465 rfl rfl (Nat.le_of_ble_eq_true rfl) ⟨by decide, by decide⟩ ⟨Nat.zero_le _, Nat.zero_le _⟩ dX9_ownedShare_22 (fun v3 H locs hf h => ?_)
      refine lv_iconst (v := (-1)) E.1 E.2.1 dX9_ownedShare_25 (by decide) ?_
      refine x_brn hf (lv_icmp_ne (tgt := 33) E.1 E.2.1 dX9_ownedShare_26 (by decide)) (fun hf => ?_) (fun hf => ?_)
      · refine lv_iconst (v := 1) E.1 E.2.1 dX9_ownedShare_33 (by decide) ?_
        refine lv_iadd E.1 E.2.1 dX9_ownedShare_34 ?_
        refine x_nm hf (fun v4 hf => ?_)
        refine lv_istore_n (lv' := [(1, .int v4), (0, .ref (ad 0)), (2, .int m2)]) E.1 E.2.1 dX9_ownedShare_35 rfl hl (by decide) rfl (fun ls hl => ?_)
        refine x_nv hf (fun v5 e9 hf => ?_)
        refine lv_iinc (v := v5) (lv' := [(2, .int v5), (1, .int v4), (0, .ref (ad 0))]) E.1 E.2.1 dX9_ownedShare_36 hl (k := 2) rfl (by rw [e9]; rfl) (by decide) rfl (fun ls hl => ?_)
        refine lv_goto (tgt := 9) E.1 E.2.1 dX9_ownedShare_39 (by decide) ?_
        exact ih _ _ _ _ _ hf h (lv_sub hl [2, 1, 0] rfl)
      · refine lv_iconst (v := 0) E.1 E.2.1 dX9_ownedShare_29 (by decide) ?_
        refine lv_goto (tgt := 34) E.1 E.2.1 dX9_ownedShare_30 (by decide) ?_
        refine lv_iadd E.1 E.2.1 dX9_ownedShare_34 ?_
        refine x_nm hf (fun v6 hf => ?_)
        refine lv_istore_n (lv' := [(1, .int v6), (0, .ref (ad 0)), (2, .int m2)]) E.1 E.2.1 dX9_ownedShare_35 rfl hl (by decide) rfl (fun ls hl => ?_)
        refine x_nv hf (fun v7 e9 hf => ?_)
        refine lv_iinc (v := v7) (lv' := [(2, .int v7), (1, .int v6), (0, .ref (ad 0))]) E.1 E.2.1 dX9_ownedShare_36 hl (k := 2) rfl (by rw [e9]; rfl) (by decide) rfl (fun ls hl => ?_)
        refine lv_goto (tgt := 9) E.1 E.2.1 dX9_ownedShare_39 (by decide) ?_
        exact ih _ _ _ _ _ hf h (lv_sub hl [2, 1, 0] rfl)
set_option maxHeartbeats 4000000 in
set_option maxRecDepth 100000 in
theorem c_X9_ownedShare (l : Launch) (D : va_G) (cy : Nat → ClassId) (s00 : State) (ad : Nat → Nat) (S : XS) (r9 : UInt32) (S9 : XS) (hf : f_X9_ownedShare S = some (r9, S9)) : XFl l yX9_ownedShare cX9_ownedShare 3 (some .float) 1 D cy s00 shMod ad S [.ref (ad 0)] r9 S9 := by
  refine XFl.of (by decide) [(0, .ref (ad 0))] rfl (Nat.le_of_ble_eq_true rfl) (fun p e s m args below meth c A ls E h hl => ?_)
  unfold f_X9_ownedShare at hf
  refine lv_aload_n E.1 E.2.1 dX9_ownedShare_0 rfl (lv_at hl 0 rfl) ?_
  refine lv_iconst (v := 0) E.1 E.2.1 dX9_ownedShare_1 (by decide) ?_
  refine x_put (ty := .int) E h 0 16 hf rfl rfl rfl (by decide) xinX9 tyX9_ok nmX9 kw1626 rfl (by decide +kernel) rfl rfl dX9_ownedShare_2 (fun S1 H locs hf h => ?_)
  refine lv_iconst (v := 0) E.1 E.2.1 dX9_ownedShare_5 (by decide) ?_
  refine lv_istore_n (lv' := [(1, .int 0), (0, .ref (ad 0))]) E.1 E.2.1 dX9_ownedShare_6 rfl hl (by decide) rfl (fun ls hl => ?_)
  refine lv_iconst (v := 0) E.1 E.2.1 dX9_ownedShare_7 (by decide) ?_
  refine lv_istore_n (lv' := [(2, .int 0), (1, .int 0), (0, .ref (ad 0))]) E.1 E.2.1 dX9_ownedShare_8 rfl hl (by decide) rfl (fun ls hl => ?_)
  refine w_X9_ownedShare_L9 E ?_ _ _ _ _ _ _ hf h (lv_sub hl [2, 1, 0] rfl)
  intro v8 v9 H locs ls hf h hl
  refine lv_aload_n E.1 E.2.1 dX9_ownedShare_42 rfl (lv_at hl 0 rfl) ?_
  refine x_getr E h 0 0 1 rfl rfl rfl (by decide) xinX9 kw1610 dX9_ownedShare_43 ?_
  refine lv_iconst (v := 0) E.1 E.2.1 dX9_ownedShare_46 (by decide) ?_
  refine x_iald E h 1 hf rfl dX9_ownedShare_47 (fun v10 hf => ?_)
  refine x_brn hf (lv_if_ne (tgt := 55) E.1 E.2.1 dX9_ownedShare_48 (by decide)) (fun hf => ?_) (fun hf => ?_)
  · refine lv_iload_n E.1 E.2.1 dX9_ownedShare_55 rfl (lv_at hl 1 rfl) ?_
    refine lv_i2f E.1 E.2.1 dX9_ownedShare_56 ?_
    refine lv_aload_n E.1 E.2.1 dX9_ownedShare_57 rfl (lv_at hl 0 rfl) ?_
    refine x_getr E h 0 0 1 rfl rfl rfl (by decide) xinX9 kw1610 dX9_ownedShare_58 ?_
    refine lv_iconst (v := 0) E.1 E.2.1 dX9_ownedShare_61 (by decide) ?_
    refine x_iald E h 1 hf rfl dX9_ownedShare_62 (fun v11 hf => ?_)
    refine lv_i2f E.1 E.2.1 dX9_ownedShare_63 ?_
    obtain ⟨hn, hf⟩ := xfn_in hf
    refine lv_fdiv E.1 E.2.1 dX9_ownedShare_64 hn ?_
    generalize FP.fdiv (FP.i2f v8) (FP.i2f v11) = v12 at hf ⊢
    exact x_fret E h hf dX9_ownedShare_65
  · refine lv_fconst0 E.1 E.2.1 dX9_ownedShare_51 ?_
    refine lv_goto (tgt := 65) E.1 E.2.1 dX9_ownedShare_52 (by decide) ?_
    exact x_fret E h hf dX9_ownedShare_65
set_option maxHeartbeats 4000000 in
set_option maxRecDepth 100000 in
theorem w_X9_isCrowded_L4 {p : Program} {l : Launch} {e : Env} {s : State} {m : MethodId} {args : Array Value} {below : List Frame} {meth : Method} {c : Code} {D : va_G} {cy : Nat → ClassId} {s00 : State} {ad : Nat → Nat} {A : Nat → Prop}  {r9 : Int32} {u1 : Int32} {S : XS} {K : Int32 → Int32 → Option (Int32)} (E : XE p s m args meth c cX9_isCrowded 4 RX9 (some .boolean) D cy s00) (hk : ∀ (m2 m3 : Int32) (H : Heap) (locs : List Loc) (ls : Array Slot), K m2 m3 = some r9 → XH D cy s00 shMod ad S A s H locs → lv_has ls 4 [(0, .ref (ad 0)), (1, .int u1), (2, .int m2), (3, .int m3)] → W p l e (xrm 1) s m args below meth c H locs 0 0 (MQ below (xqi D cy shMod ad r9 S A) args s 0 0 A) (F0 m 38 ls [])) :
    ∀ (n : Nat) (m2 m3 : Int32) (H : Heap) (locs : List Loc) (ls : Array Slot), f_X9_isCrowded_L4 K S u1 n m2 m3 = some r9 → XH D cy s00 shMod ad S A s H locs → lv_has ls 4 [(0, .ref (ad 0)), (1, .int u1), (2, .int m2), (3, .int m3)] → W p l e (xrm 1) s m args below meth c H locs 0 0 (MQ below (xqi D cy shMod ad r9 S A) args s 0 0 A) (F0 m 4 ls []) := by
  intro n
  induction n with
  | zero => intro m2 m3 H locs ls hf; cases hf
  | succ n ih =>
    intro m2 m3 H locs ls hf h hl
    rw [f_X9_isCrowded_L4] at hf
    refine lv_iload_n E.1 E.2.1 dX9_isCrowded_4 rfl (lv_at hl 3 rfl) ?_
    refine lv_aload_n E.1 E.2.1 dX9_isCrowded_5 rfl (lv_at hl 0 rfl) ?_
    refine x_getr E h 0 0 1 rfl rfl rfl (by decide) xinX9 kw1610 dX9_isCrowded_6 ?_
    refine lv_iconst (v := 2) E.1 E.2.1 dX9_isCrowded_9 (by decide) ?_
    refine x_iald E h 1 hf rfl dX9_isCrowded_10 (fun v1 hf => ?_)
    refine x_br hf (lv_icmp_ge (tgt := 38) E.1 E.2.1 dX9_isCrowded_11 (by decide)) (fun hf => ?_) (fun hf => ?_)
    · exact hk _ _ _ _ _ hf h (lv_sub hl [0, 1, 2, 3] rfl)
    · refine lv_iload_n E.1 E.2.1 dX9_isCrowded_14 rfl (lv_at hl 2 rfl) ?_
      refine lv_aload_n E.1 E.2.1 dX9_isCrowded_15 rfl (lv_at hl 0 rfl) ?_
      refine lv_iload_n E.1 E.2.1 dX9_isCrowded_16 rfl (lv_at hl 3 rfl) ?_
      refine lv_iconst (v := 3) E.1 E.2.1 dX9_isCrowded_17 (by decide) ?_
      refine x_callp E h hl 0 hf (fun r0 hr => c_X9_of l D cy s00 _ S m3 3 r0 hr) m_X9_of rfl rfl kw1429 rfl rfl (Nat.le_of_ble_eq_true rfl) ⟨by decide, by decide⟩ ⟨Nat.zero_le _, Nat.zero_le _⟩ dX9_isCrowded_18 (fun v2 H locs hf h => ?_)
      refine lv_iload_n E.1 E.2.1 dX9_isCrowded_21 rfl (lv_at hl 1 rfl) ?_
      refine x_brn hf (lv_icmp_ne (tgt := 29) E.1 E.2.1 dX9_isCrowded_22 (by decide)) (fun hf => ?_) (fun hf => ?_)
      · refine lv_iconst (v := 0) E.1 E.2.1 dX9_isCrowded_29 (by decide) ?_
        refine lv_iadd E.1 E.2.1 dX9_isCrowded_30 ?_
        refine x_nm hf (fun v3 hf => ?_)
        refine lv_istore_n (lv' := [(2, .int v3), (0, .ref (ad 0)), (1, .int u1), (3, .int m3)]) E.1 E.2.1 dX9_isCrowded_31 rfl hl (by decide) rfl (fun ls hl => ?_)
        refine x_nv hf (fun v4 e9 hf => ?_)
        refine lv_iinc (v := v4) (lv' := [(3, .int v4), (2, .int v3), (0, .ref (ad 0)), (1, .int u1)]) E.1 E.2.1 dX9_isCrowded_32 hl (k := 3) rfl (by rw [e9]; rfl) (by decide) rfl (fun ls hl => ?_)
        refine lv_goto (tgt := 4) E.1 E.2.1 dX9_isCrowded_35 (by decide) ?_
        exact ih _ _ _ _ _ hf h (lv_sub hl [2, 3, 1, 0] rfl)
      · refine lv_iconst (v := 1) E.1 E.2.1 dX9_isCrowded_25 (by decide) ?_
        refine lv_goto (tgt := 30) E.1 E.2.1 dX9_isCrowded_26 (by decide) ?_
        refine lv_iadd E.1 E.2.1 dX9_isCrowded_30 ?_
        refine x_nm hf (fun v5 hf => ?_)
        refine lv_istore_n (lv' := [(2, .int v5), (0, .ref (ad 0)), (1, .int u1), (3, .int m3)]) E.1 E.2.1 dX9_isCrowded_31 rfl hl (by decide) rfl (fun ls hl => ?_)
        refine x_nv hf (fun v6 e9 hf => ?_)
        refine lv_iinc (v := v6) (lv' := [(3, .int v6), (2, .int v5), (0, .ref (ad 0)), (1, .int u1)]) E.1 E.2.1 dX9_isCrowded_32 hl (k := 3) rfl (by rw [e9]; rfl) (by decide) rfl (fun ls hl => ?_)
        refine lv_goto (tgt := 4) E.1 E.2.1 dX9_isCrowded_35 (by decide) ?_
        exact ih _ _ _ _ _ hf h (lv_sub hl [2, 3, 1, 0] rfl)
set_option maxHeartbeats 4000000 in
set_option maxRecDepth 100000 in
theorem c_X9_isCrowded (l : Launch) (D : va_G) (cy : Nat → ClassId) (s00 : State) (ad : Nat → Nat) (S : XS) (p0 : Int32) (r9 : Int32) (hf : f_X9_isCrowded S p0 = some r9) : XI l yX9_isCrowded cX9_isCrowded 4 (some .boolean) 1 D cy s00 shMod ad S [.ref (ad 0), .int p0] r9 S := by
  refine XI.of (by decide) [(0, .ref (ad 0)), (1, .int p0)] rfl (Nat.le_of_ble_eq_true rfl) (fun p e s m args below meth c A ls E h hl => ?_)
  unfold f_X9_isCrowded at hf
  refine lv_iconst (v := 0) E.1 E.2.1 dX9_isCrowded_0 (by decide) ?_
  refine lv_istore_n (lv' := [(2, .int 0), (0, .ref (ad 0)), (1, .int p0)]) E.1 E.2.1 dX9_isCrowded_1 rfl hl (by decide) rfl (fun ls hl => ?_)
  refine lv_iconst (v := 0) E.1 E.2.1 dX9_isCrowded_2 (by decide) ?_
  refine lv_istore_n (lv' := [(3, .int 0), (2, .int 0), (0, .ref (ad 0)), (1, .int p0)]) E.1 E.2.1 dX9_isCrowded_3 rfl hl (by decide) rfl (fun ls hl => ?_)
  refine w_X9_isCrowded_L4 E ?_ _ _ _ _ _ _ hf h (lv_sub hl [2, 3, 1, 0] rfl)
  intro v7 v8 H locs ls hf h hl
  refine lv_iload_n E.1 E.2.1 dX9_isCrowded_38 rfl (lv_at hl 2 rfl) ?_
  refine lv_iconst (v := 1) E.1 E.2.1 dX9_isCrowded_39 (by decide) ?_
  refine x_br hf (lv_icmp_le (tgt := 47) E.1 E.2.1 dX9_isCrowded_40 (by decide)) (fun hf => ?_) (fun hf => ?_)
  · refine lv_iconst (v := 0) E.1 E.2.1 dX9_isCrowded_47 (by decide) ?_
    exact x_zrc E h (by decide) hf dX9_isCrowded_48
  · refine lv_iconst (v := 1) E.1 E.2.1 dX9_isCrowded_43 (by decide) ?_
    refine lv_goto (tgt := 48) E.1 E.2.1 dX9_isCrowded_44 (by decide) ?_
    exact x_zrc E h (by decide) hf dX9_isCrowded_48
set_option maxHeartbeats 4000000 in
set_option maxRecDepth 100000 in
theorem w_X9_violations_L48 {p : Program} {l : Launch} {e : Env} {s : State} {m : MethodId} {args : Array Value} {below : List Frame} {meth : Method} {c : Code} {D : va_G} {cy : Nat → ClassId} {s00 : State} {ad : Nat → Nat} {A : Nat → Prop}  {r9 : Int32} {S9 : XS} {u1 : Int32} {S : XS} {K : Int32 → Int32 → Option (Int32 × XS)} (E : XE p s m args meth c cX9_violations 4 RX9 (some .int) D cy s00) (hk : ∀ (m2 m3 : Int32) (H : Heap) (locs : List Loc) (ls : Array Slot), K m2 m3 = some (r9, S9) → XH D cy s00 shMod ad S A s H locs → lv_has ls 4 [(0, .ref (ad 0)), (1, .int u1), (2, .int m2), (3, .int m3)] → W p l e (xrm 2) s m args below meth c H locs 0 0 (MQ below (xqi D cy shMod ad r9 S9 A) args s 0 0 A) (F0 m 80 ls [])) :
    ∀ (n : Nat) (m2 m3 : Int32) (H : Heap) (locs : List Loc) (ls : Array Slot), f_X9_violations_L48 K S u1 n m2 m3 = some (r9, S9) → XH D cy s00 shMod ad S A s H locs → lv_has ls 4 [(0, .ref (ad 0)), (1, .int u1), (2, .int m2), (3, .int m3)] → W p l e (xrm 2) s m args below meth c H locs 0 0 (MQ below (xqi D cy shMod ad r9 S9 A) args s 0 0 A) (F0 m 48 ls []) := by
  intro n
  induction n with
  | zero => intro m2 m3 H locs ls hf; cases hf
  | succ n ih =>
    intro m2 m3 H locs ls hf h hl
    rw [f_X9_violations_L48] at hf
    refine lv_iload_n E.1 E.2.1 dX9_violations_48 rfl (lv_at hl 3 rfl) ?_
    refine lv_aload_n E.1 E.2.1 dX9_violations_49 rfl (lv_at hl 0 rfl) ?_
    refine x_getr E h 0 0 1 rfl rfl rfl (by decide) xinX9 kw1610 dX9_violations_50 ?_
    refine lv_iconst (v := 0) E.1 E.2.1 dX9_violations_53 (by decide) ?_
    refine x_iald E h 1 hf rfl dX9_violations_54 (fun v7 hf => ?_)
    refine x_br hf (lv_icmp_ge (tgt := 80) E.1 E.2.1 dX9_violations_55 (by decide)) (fun hf => ?_) (fun hf => ?_)
    · exact hk _ _ _ _ _ hf h (lv_sub hl [0, 1, 2, 3] rfl)
    · refine lv_iload_n E.1 E.2.1 dX9_violations_58 rfl (lv_at hl 2 rfl) ?_
      refine lv_aload_n E.1 E.2.1 dX9_violations_59 rfl (lv_at hl 0 rfl) ?_
      refine lv_iload_n E.1 E.2.1 dX9_violations_60 rfl (lv_at hl 3 rfl) ?_
      refine x_callp E h hl 0 hf (fun r0 hr => c_X9_isCrowded l D cy s00 _ S m3 r0 hr) m_X9_isCrowded rfl rfl kw1988 rfl rfl (Nat.le_of_ble_eq_true rfl) ⟨by decide, by decide⟩ ⟨Nat.zero_le _, Nat.zero_le _⟩ dX9_violations_61 (fun v8 H locs hf h => ?_)
      refine x_br hf (lv_if_eq (tgt := 71) E.1 E.2.1 dX9_violations_64 (by decide)) (fun hf => ?_) (fun hf => ?_)
      · refine lv_iconst (v := 0) E.1 E.2.1 dX9_violations_71 (by decide) ?_
        refine lv_iadd E.1 E.2.1 dX9_violations_72 ?_
        refine x_nm hf (fun v9 hf => ?_)
        refine lv_istore_n (lv' := [(2, .int v9), (0, .ref (ad 0)), (1, .int u1), (3, .int m3)]) E.1 E.2.1 dX9_violations_73 rfl hl (by decide) rfl (fun ls hl => ?_)
        refine x_nv hf (fun v10 e9 hf => ?_)
        refine lv_iinc (v := v10) (lv' := [(3, .int v10), (2, .int v9), (0, .ref (ad 0)), (1, .int u1)]) E.1 E.2.1 dX9_violations_74 hl (k := 3) rfl (by rw [e9]; rfl) (by decide) rfl (fun ls hl => ?_)
        refine lv_goto (tgt := 48) E.1 E.2.1 dX9_violations_77 (by decide) ?_
        exact ih _ _ _ _ _ hf h (lv_sub hl [2, 3, 1, 0] rfl)
      · refine lv_iconst (v := 1) E.1 E.2.1 dX9_violations_67 (by decide) ?_
        refine lv_goto (tgt := 72) E.1 E.2.1 dX9_violations_68 (by decide) ?_
        refine lv_iadd E.1 E.2.1 dX9_violations_72 ?_
        refine x_nm hf (fun v11 hf => ?_)
        refine lv_istore_n (lv' := [(2, .int v11), (0, .ref (ad 0)), (1, .int u1), (3, .int m3)]) E.1 E.2.1 dX9_violations_73 rfl hl (by decide) rfl (fun ls hl => ?_)
        refine x_nv hf (fun v12 e9 hf => ?_)
        refine lv_iinc (v := v12) (lv' := [(3, .int v12), (2, .int v11), (0, .ref (ad 0)), (1, .int u1)]) E.1 E.2.1 dX9_violations_74 hl (k := 3) rfl (by rw [e9]; rfl) (by decide) rfl (fun ls hl => ?_)
        refine lv_goto (tgt := 48) E.1 E.2.1 dX9_violations_77 (by decide) ?_
        exact ih _ _ _ _ _ hf h (lv_sub hl [2, 3, 1, 0] rfl)
set_option maxHeartbeats 4000000 in
set_option maxRecDepth 100000 in
theorem w_X9_violations_L82 {p : Program} {l : Launch} {e : Env} {s : State} {m : MethodId} {args : Array Value} {below : List Frame} {meth : Method} {c : Code} {D : va_G} {cy : Nat → ClassId} {s00 : State} {ad : Nat → Nat} {A : Nat → Prop}  {r9 : Int32} {S9 : XS} {u1 : Int32} {S : XS} {K : Int32 → Int32 → Option (Int32 × XS)} (E : XE p s m args meth c cX9_violations 4 RX9 (some .int) D cy s00) (hk : ∀ (m2 m3 : Int32) (H : Heap) (locs : List Loc) (ls : Array Slot), K m2 m3 = some (r9, S9) → XH D cy s00 shMod ad S A s H locs → lv_has ls 4 [(0, .ref (ad 0)), (1, .int u1), (2, .int m2), (3, .int m3)] → W p l e (xrm 2) s m args below meth c H locs 0 0 (MQ below (xqi D cy shMod ad r9 S9 A) args s 0 0 A) (F0 m 138 ls [])) :
    ∀ (n : Nat) (m2 m3 : Int32) (H : Heap) (locs : List Loc) (ls : Array Slot), f_X9_violations_L82 K S u1 n m2 m3 = some (r9, S9) → XH D cy s00 shMod ad S A s H locs → lv_has ls 4 [(0, .ref (ad 0)), (1, .int u1), (2, .int m2), (3, .int m3)] → W p l e (xrm 2) s m args below meth c H locs 0 0 (MQ below (xqi D cy shMod ad r9 S9 A) args s 0 0 A) (F0 m 82 ls []) := by
  intro n
  induction n with
  | zero => intro m2 m3 H locs ls hf; cases hf
  | succ n ih =>
    intro m2 m3 H locs ls hf h hl
    rw [f_X9_violations_L82] at hf
    refine lv_iload_n E.1 E.2.1 dX9_violations_82 rfl (lv_at hl 3 rfl) ?_
    refine lv_aload_n E.1 E.2.1 dX9_violations_83 rfl (lv_at hl 0 rfl) ?_
    refine x_getr E h 0 0 1 rfl rfl rfl (by decide) xinX9 kw1610 dX9_violations_84 ?_
    refine lv_iconst (v := 2) E.1 E.2.1 dX9_violations_87 (by decide) ?_
    refine x_iald E h 1 hf rfl dX9_violations_88 (fun v15 hf => ?_)
    refine x_br hf (lv_icmp_ge (tgt := 138) E.1 E.2.1 dX9_violations_89 (by decide)) (fun hf => ?_) (fun hf => ?_)
    · exact hk _ _ _ _ _ hf h (lv_sub hl [0, 1, 2, 3] rfl)
    · refine lv_iload_n E.1 E.2.1 dX9_violations_92 rfl (lv_at hl 2 rfl) ?_
      refine lv_aload_n E.1 E.2.1 dX9_violations_93 rfl (lv_at hl 0 rfl) ?_
      refine lv_iload_n E.1 E.2.1 dX9_violations_94 rfl (lv_at hl 3 rfl) ?_
      refine x_callp E h hl 0 hf (fun r0 hr => c_X9_owns l D cy s00 _ S m3 r0 hr) m_X9_owns rfl rfl kw1486 rfl rfl (Nat.le_of_ble_eq_true rfl) ⟨by decide, by decide⟩ ⟨Nat.zero_le _, Nat.zero_le _⟩ dX9_violations_95 (fun v16 H locs hf h => ?_)
      refine lv_iconst (v := 4) E.1 E.2.1 dX9_violations_98 (by decide) ?_
      refine x_br hf (lv_icmp_le (tgt := 106) E.1 E.2.1 dX9_violations_99 (by decide)) (fun hf => ?_) (fun hf => ?_)
      · refine lv_iconst (v := 0) E.1 E.2.1 dX9_violations_106 (by decide) ?_
        refine lv_iadd E.1 E.2.1 dX9_violations_107 ?_
        refine x_nm hf (fun v17 hf => ?_)
        refine lv_istore_n (lv' := [(2, .int v17), (0, .ref (ad 0)), (1, .int u1), (3, .int m3)]) E.1 E.2.1 dX9_violations_108 rfl hl (by decide) rfl (fun ls hl => ?_)
        refine lv_iload_n E.1 E.2.1 dX9_violations_109 rfl (lv_at hl 0 rfl) ?_
        refine lv_aload_n E.1 E.2.1 dX9_violations_110 rfl (lv_at hl 1 rfl) ?_
        refine lv_iload_n E.1 E.2.1 dX9_violations_111 rfl (lv_at hl 3 rfl) ?_
        refine lv_iconst (v := 2) E.1 E.2.1 dX9_violations_112 (by decide) ?_
        refine x_callp E h hl 0 hf (fun r0 hr => c_X9_of l D cy s00 _ S m3 2 r0 hr) m_X9_of rfl rfl kw1429 rfl rfl (Nat.le_of_ble_eq_true rfl) ⟨by decide, by decide⟩ ⟨Nat.zero_le _, Nat.zero_le _⟩ dX9_violations_113 (fun v18 H locs hf h => ?_)
        refine lv_iconst (v := 0) E.1 E.2.1 dX9_violations_116 (by decide) ?_
        refine lv_bipush (v := 99) E.1 E.2.1 dX9_violations_117 (by decide) ?_
        refine x_callsp E h hl hf (fun r0 hr => c_X9_in l D cy s00 _ _ v18 0 99 r0 hr) m_X9_in kw1378 rfl rfl (Nat.le_of_ble_eq_true rfl) ⟨by decide, by decide⟩ ⟨Nat.zero_le _, Nat.zero_le _⟩ dX9_violations_119 (fun v19 H locs hf h => ?_)
        refine x_br hf (lv_if_eq (tgt := 129) E.1 E.2.1 dX9_violations_122 (by decide)) (fun hf => ?_) (fun hf => ?_)
        · refine lv_iconst (v := 1) E.1 E.2.1 dX9_violations_129 (by decide) ?_
          refine lv_iadd E.1 E.2.1 dX9_violations_130 ?_
          refine x_nm hf (fun v20 hf => ?_)
          refine lv_istore_n (lv' := [(2, .int v20), (0, .ref (ad 0)), (1, .int u1), (3, .int m3)]) E.1 E.2.1 dX9_violations_131 rfl hl (by decide) rfl (fun ls hl => ?_)
          refine x_nv hf (fun v21 e9 hf => ?_)
          refine lv_iinc (v := v21) (lv' := [(3, .int v21), (2, .int v20), (0, .ref (ad 0)), (1, .int u1)]) E.1 E.2.1 dX9_violations_132 hl (k := 3) rfl (by rw [e9]; rfl) (by decide) rfl (fun ls hl => ?_)
          refine lv_goto (tgt := 82) E.1 E.2.1 dX9_violations_135 (by decide) ?_
          exact ih _ _ _ _ _ hf h (lv_sub hl [2, 3, 1, 0] rfl)
        · refine lv_iconst (v := 0) E.1 E.2.1 dX9_violations_125 (by decide) ?_
          refine lv_goto (tgt := 130) E.1 E.2.1 dX9_violations_126 (by decide) ?_
          refine lv_iadd E.1 E.2.1 dX9_violations_130 ?_
          refine x_nm hf (fun v22 hf => ?_)
          refine lv_istore_n (lv' := [(2, .int v22), (0, .ref (ad 0)), (1, .int u1), (3, .int m3)]) E.1 E.2.1 dX9_violations_131 rfl hl (by decide) rfl (fun ls hl => ?_)
          refine x_nv hf (fun v23 e9 hf => ?_)
          refine lv_iinc (v := v23) (lv' := [(3, .int v23), (2, .int v22), (0, .ref (ad 0)), (1, .int u1)]) E.1 E.2.1 dX9_violations_132 hl (k := 3) rfl (by rw [e9]; rfl) (by decide) rfl (fun ls hl => ?_)
          refine lv_goto (tgt := 82) E.1 E.2.1 dX9_violations_135 (by decide) ?_
          exact ih _ _ _ _ _ hf h (lv_sub hl [2, 3, 1, 0] rfl)
      · refine lv_iconst (v := 1) E.1 E.2.1 dX9_violations_102 (by decide) ?_
        refine lv_goto (tgt := 107) E.1 E.2.1 dX9_violations_103 (by decide) ?_
        refine lv_iadd E.1 E.2.1 dX9_violations_107 ?_
        refine x_nm hf (fun v24 hf => ?_)
        refine lv_istore_n (lv' := [(2, .int v24), (0, .ref (ad 0)), (1, .int u1), (3, .int m3)]) E.1 E.2.1 dX9_violations_108 rfl hl (by decide) rfl (fun ls hl => ?_)
        refine lv_iload_n E.1 E.2.1 dX9_violations_109 rfl (lv_at hl 0 rfl) ?_
        refine lv_aload_n E.1 E.2.1 dX9_violations_110 rfl (lv_at hl 1 rfl) ?_
        refine lv_iload_n E.1 E.2.1 dX9_violations_111 rfl (lv_at hl 3 rfl) ?_
        refine lv_iconst (v := 2) E.1 E.2.1 dX9_violations_112 (by decide) ?_
        refine x_callp E h hl 0 hf (fun r0 hr => c_X9_of l D cy s00 _ S m3 2 r0 hr) m_X9_of rfl rfl kw1429 rfl rfl (Nat.le_of_ble_eq_true rfl) ⟨by decide, by decide⟩ ⟨Nat.zero_le _, Nat.zero_le _⟩ dX9_violations_113 (fun v25 H locs hf h => ?_)
        refine lv_iconst (v := 0) E.1 E.2.1 dX9_violations_116 (by decide) ?_
        refine lv_bipush (v := 99) E.1 E.2.1 dX9_violations_117 (by decide) ?_
        refine x_callsp E h hl hf (fun r0 hr => c_X9_in l D cy s00 _ _ v25 0 99 r0 hr) m_X9_in kw1378 rfl rfl (Nat.le_of_ble_eq_true rfl) ⟨by decide, by decide⟩ ⟨Nat.zero_le _, Nat.zero_le _⟩ dX9_violations_119 (fun v26 H locs hf h => ?_)
        refine x_br hf (lv_if_eq (tgt := 129) E.1 E.2.1 dX9_violations_122 (by decide)) (fun hf => ?_) (fun hf => ?_)
        · refine lv_iconst (v := 1) E.1 E.2.1 dX9_violations_129 (by decide) ?_
          refine lv_iadd E.1 E.2.1 dX9_violations_130 ?_
          refine x_nm hf (fun v27 hf => ?_)
          refine lv_istore_n (lv' := [(2, .int v27), (0, .ref (ad 0)), (1, .int u1), (3, .int m3)]) E.1 E.2.1 dX9_violations_131 rfl hl (by decide) rfl (fun ls hl => ?_)
          refine x_nv hf (fun v28 e9 hf => ?_)
          refine lv_iinc (v := v28) (lv' := [(3, .int v28), (2, .int v27), (0, .ref (ad 0)), (1, .int u1)]) E.1 E.2.1 dX9_violations_132 hl (k := 3) rfl (by rw [e9]; rfl) (by decide) rfl (fun ls hl => ?_)
          refine lv_goto (tgt := 82) E.1 E.2.1 dX9_violations_135 (by decide) ?_
          exact ih _ _ _ _ _ hf h (lv_sub hl [2, 3, 1, 0] rfl)
        · refine lv_iconst (v := 0) E.1 E.2.1 dX9_violations_125 (by decide) ?_
          refine lv_goto (tgt := 130) E.1 E.2.1 dX9_violations_126 (by decide) ?_
          refine lv_iadd E.1 E.2.1 dX9_violations_130 ?_
          refine x_nm hf (fun v29 hf => ?_)
          refine lv_istore_n (lv' := [(2, .int v29), (0, .ref (ad 0)), (1, .int u1), (3, .int m3)]) E.1 E.2.1 dX9_violations_131 rfl hl (by decide) rfl (fun ls hl => ?_)
          refine x_nv hf (fun v30 e9 hf => ?_)
          refine lv_iinc (v := v30) (lv' := [(3, .int v30), (2, .int v29), (0, .ref (ad 0)), (1, .int u1)]) E.1 E.2.1 dX9_violations_132 hl (k := 3) rfl (by rw [e9]; rfl) (by decide) rfl (fun ls hl => ?_)
          refine lv_goto (tgt := 82) E.1 E.2.1 dX9_violations_135 (by decide) ?_
          exact ih _ _ _ _ _ hf h (lv_sub hl [2, 3, 1, 0] rfl)
set_option maxHeartbeats 4000000 in
set_option maxRecDepth 100000 in
theorem c_X9_violations (l : Launch) (D : va_G) (cy : Nat → ClassId) (s00 : State) (ad : Nat → Nat) (S : XS) (r9 : Int32) (S9 : XS) (hf : f_X9_violations S = some (r9, S9)) : XI l yX9_violations cX9_violations 4 (some .int) 2 D cy s00 shMod ad S [.ref (ad 0)] r9 S9 := by
  refine XI.of (by decide) [(0, .ref (ad 0))] rfl (Nat.le_of_ble_eq_true rfl) (fun p e s m args below meth c A ls E h hl => ?_)
  unfold f_X9_violations at hf
  refine lv_aload_n E.1 E.2.1 dX9_violations_0 rfl (lv_at hl 0 rfl) ?_
  refine lv_iconst (v := 0) E.1 E.2.1 dX9_violations_1 (by decide) ?_
  refine x_put (ty := .int) E h 0 16 hf rfl rfl rfl (by decide) xinX9 tyX9_ok nmX9 kw1626 rfl (by decide +kernel) rfl rfl dX9_violations_2 (fun S1 H locs hf h => ?_)
  refine lv_aload_n E.1 E.2.1 dX9_violations_5 rfl (lv_at hl 0 rfl) ?_
  refine x_callp E h hl 0 hf (fun r0 hr => c_X9_allFish l D cy s00 _ S1  r0 hr) m_X9_allFish rfl rfl kw1972 rfl rfl (Nat.le_of_ble_eq_true rfl) ⟨by decide, by decide⟩ ⟨Nat.zero_le _, Nat.zero_le _⟩ dX9_violations_6 (fun v2 H locs hf h => ?_)
  refine lv_iconst (v := 5) E.1 E.2.1 dX9_violations_9 (by decide) ?_
  refine lv_aload_n E.1 E.2.1 dX9_violations_10 rfl (lv_at hl 0 rfl) ?_
  refine x_getr E h 0 0 1 rfl rfl rfl (by decide) xinX9 kw1610 dX9_violations_11 ?_
  refine lv_iconst (v := 2) E.1 E.2.1 dX9_violations_14 (by decide) ?_
  refine x_iald E h 1 hf rfl dX9_violations_15 (fun v3 hf => ?_)
  refine lv_imul E.1 E.2.1 dX9_violations_16 ?_
  refine lv_isub E.1 E.2.1 dX9_violations_17 ?_
  refine lv_aload_n E.1 E.2.1 dX9_violations_18 rfl (lv_at hl 0 rfl) ?_
  refine x_getr E h 0 0 1 rfl rfl rfl (by decide) xinX9 kw1610 dX9_violations_19 ?_
  refine lv_bipush (v := 8) E.1 E.2.1 dX9_violations_22 (by decide) ?_
  refine x_iald E h 1 hf rfl dX9_violations_24 (fun v4 hf => ?_)
  refine lv_isub E.1 E.2.1 dX9_violations_25 ?_
  refine lv_aload_n E.1 E.2.1 dX9_violations_26 rfl (lv_at hl 0 rfl) ?_
  refine x_getr E h 0 0 1 rfl rfl rfl (by decide) xinX9 kw1610 dX9_violations_27 ?_
  refine lv_bipush (v := 9) E.1 E.2.1 dX9_violations_30 (by decide) ?_
  refine x_iald E h 1 hf rfl dX9_violations_32 (fun v5 hf => ?_)
  refine lv_iadd E.1 E.2.1 dX9_violations_33 ?_
  refine x_nm hf (fun v6 hf => ?_)
  refine lv_istore_n (lv' := [(1, .int v6), (0, .ref (ad 0))]) E.1 E.2.1 dX9_violations_34 rfl hl (by decide) rfl (fun ls hl => ?_)
  refine lv_iload_n E.1 E.2.1 dX9_violations_35 rfl (lv_at hl 0 rfl) ?_
  refine x_br hf (lv_if_ge (tgt := 44) E.1 E.2.1 dX9_violations_36 (by decide)) (fun hf => ?_) (fun hf => ?_)
  · refine lv_iload_n E.1 E.2.1 dX9_violations_44 rfl (lv_at hl 0 rfl) ?_
    refine lv_istore_n (lv' := [(2, .int v6), (1, .int v6), (0, .ref (ad 0))]) E.1 E.2.1 dX9_violations_45 rfl hl (by decide) rfl (fun ls hl => ?_)
    refine lv_iconst (v := 0) E.1 E.2.1 dX9_violations_46 (by decide) ?_
    refine lv_istore_n (lv' := [(3, .int 0), (2, .int v6), (1, .int v6), (0, .ref (ad 0))]) E.1 E.2.1 dX9_violations_47 rfl hl (by decide) rfl (fun ls hl => ?_)
    refine w_X9_violations_L48 E ?_ _ _ _ _ _ _ hf h (lv_sub hl [3, 2, 1, 0] rfl)
    intro v13 v14 H locs ls hf h hl
    refine lv_iconst (v := 0) E.1 E.2.1 dX9_violations_80 (by decide) ?_
    refine lv_istore_n (lv' := [(3, .int 0), (0, .ref (ad 0)), (1, .int v6), (2, .int v13)]) E.1 E.2.1 dX9_violations_81 rfl hl (by decide) rfl (fun ls hl => ?_)
    refine w_X9_violations_L82 E ?_ _ _ _ _ _ _ hf h (lv_sub hl [1, 2, 3, 0] rfl)
    intro v31 v32 H locs ls hf h hl
    refine lv_iload_n E.1 E.2.1 dX9_violations_138 rfl (lv_at hl 2 rfl) ?_
    exact x_iret E h hf dX9_violations_139
  · refine lv_iload_n E.1 E.2.1 dX9_violations_39 rfl (lv_at hl 0 rfl) ?_
    refine lv_ineg E.1 E.2.1 dX9_violations_40 ?_
    refine lv_goto (tgt := 45) E.1 E.2.1 dX9_violations_41 (by decide) ?_
    refine x_nm hf (fun v33 hf => ?_)
    refine lv_istore_n (lv' := [(2, .int v33), (1, .int v6), (0, .ref (ad 0))]) E.1 E.2.1 dX9_violations_45 rfl hl (by decide) rfl (fun ls hl => ?_)
    refine lv_iconst (v := 0) E.1 E.2.1 dX9_violations_46 (by decide) ?_
    refine lv_istore_n (lv' := [(3, .int 0), (2, .int v33), (1, .int v6), (0, .ref (ad 0))]) E.1 E.2.1 dX9_violations_47 rfl hl (by decide) rfl (fun ls hl => ?_)
    refine w_X9_violations_L48 E ?_ _ _ _ _ _ _ hf h (lv_sub hl [3, 2, 1, 0] rfl)
    intro v34 v35 H locs ls hf h hl
    refine lv_iconst (v := 0) E.1 E.2.1 dX9_violations_80 (by decide) ?_
    refine lv_istore_n (lv' := [(3, .int 0), (0, .ref (ad 0)), (1, .int v6), (2, .int v34)]) E.1 E.2.1 dX9_violations_81 rfl hl (by decide) rfl (fun ls hl => ?_)
    refine w_X9_violations_L82 E ?_ _ _ _ _ _ _ hf h (lv_sub hl [1, 2, 3, 0] rfl)
    intro v36 v37 H locs ls hf h hl
    refine lv_iload_n E.1 E.2.1 dX9_violations_138 rfl (lv_at hl 2 rfl) ?_
    exact x_iret E h hf dX9_violations_139
set_option maxHeartbeats 4000000 in
set_option maxRecDepth 100000 in
theorem c_X9_write (l : Launch) (D : va_G) (cy : Nat → ClassId) (s00 : State) (ad : Nat → Nat) (S : XS) (p0 : Int32) (S9 : XS) (hf : f_X9_write S p0 = some S9) : XV l yX9_write cX9_write 2 none 0 D cy s00 shMod ad S [.ref (ad 0), .int p0] S9 := by
  refine XV.of (by decide) [(0, .ref (ad 0)), (1, .int p0)] rfl (Nat.le_of_ble_eq_true rfl) (fun p e s m args below meth c A ls E h hl => ?_)
  unfold f_X9_write at hf
  refine lv_aload_n E.1 E.2.1 dX9_write_0 rfl (lv_at hl 0 rfl) ?_
  refine x_getr E h 0 14 9 rfl rfl rfl (by decide) xinX9 kw1624 dX9_write_1 ?_
  refine lv_aload_n E.1 E.2.1 dX9_write_4 rfl (lv_at hl 0 rfl) ?_
  refine x_get E h 0 15 rfl rfl rfl (by decide) xinX9 kw1625 dX9_write_5 ?_
  refine lv_iload_n E.1 E.2.1 dX9_write_8 rfl (lv_at hl 1 rfl) ?_
  refine lv_i2c E.1 E.2.1 dX9_write_9 rfl ?_
  refine x_cast E h 9 hf rfl dX9_write_10 (fun S1 H locs hf h => ?_)
  refine lv_aload_n E.1 E.2.1 dX9_write_11 rfl (lv_at hl 0 rfl) ?_
  refine lv_dup E.1 E.2.1 dX9_write_12 rfl ?_
  refine x_get E h 0 15 rfl rfl rfl (by decide) xinX9 kw1625 dX9_write_13 ?_
  refine lv_iconst (v := 1) E.1 E.2.1 dX9_write_16 (by decide) ?_
  refine lv_iadd E.1 E.2.1 dX9_write_17 ?_
  refine x_put (ty := .int) E h 0 15 hf rfl rfl rfl (by decide) xinX9 tyX9_ok nmX9 kw1625 rfl (by decide +kernel) rfl rfl dX9_write_18 (fun S3 H locs hf h => ?_)
  exact x_vret E h hf dX9_write_21
set_option maxHeartbeats 4000000 in
set_option maxRecDepth 100000 in
theorem c_X9_writeCat (l : Launch) (D : va_G) (cy : Nat → ClassId) (s00 : State) (ad : Nat → Nat) (S : XS) (p0 p1 : Int32) (S9 : XS) (hf : f_X9_writeCat S p0 p1 = some S9) : XV l yX9_writeCat cX9_writeCat 3 none 1 D cy s00 shMod ad S [.ref (ad 0), .int p0, .int p1] S9 := by
  refine XV.of (by decide) [(0, .ref (ad 0)), (1, .int p0), (2, .int p1)] rfl (Nat.le_of_ble_eq_true rfl) (fun p e s m args below meth c A ls E h hl => ?_)
  unfold f_X9_writeCat at hf
  refine lv_iload_n E.1 E.2.1 dX9_writeCat_0 rfl (lv_at hl 2 rfl) ?_
  refine lv_iconst (v := (-1)) E.1 E.2.1 dX9_writeCat_1 (by decide) ?_
  refine x_br hf (lv_icmp_eq (tgt := 18) E.1 E.2.1 dX9_writeCat_2 (by decide)) (fun hf => ?_) (fun hf => ?_)
  · exact x_vret E h hf dX9_writeCat_18
  · refine lv_aload_n E.1 E.2.1 dX9_writeCat_5 rfl (lv_at hl 0 rfl) ?_
    refine lv_iload_n E.1 E.2.1 dX9_writeCat_6 rfl (lv_at hl 1 rfl) ?_
    refine x_callv E h hl 0 hf (fun r0 hr => c_X9_write l D cy s00 _ S p0 r0 hr) m_X9_write rfl rfl kw1996 rfl rfl (Nat.le_of_ble_eq_true rfl) ⟨by decide, by decide⟩ ⟨Nat.zero_le _, Nat.zero_le _⟩ dX9_writeCat_7 (fun S1 H locs hf h => ?_)
    refine lv_aload_n E.1 E.2.1 dX9_writeCat_10 rfl (lv_at hl 0 rfl) ?_
    refine lv_bipush (v := 48) E.1 E.2.1 dX9_writeCat_11 (by decide) ?_
    refine lv_iload_n E.1 E.2.1 dX9_writeCat_13 rfl (lv_at hl 2 rfl) ?_
    refine lv_iadd E.1 E.2.1 dX9_writeCat_14 ?_
    refine x_callv E h hl 0 hf (fun r0 hr => c_X9_write l D cy s00 _ S1 (48 + p1) r0 hr) m_X9_write rfl rfl kw1996 rfl rfl (Nat.le_of_ble_eq_true rfl) ⟨by decide, by decide⟩ ⟨Nat.zero_le _, Nat.zero_le _⟩ dX9_writeCat_15 (fun S2 H locs hf h => ?_)
    exact x_vret E h hf dX9_writeCat_18
set_option maxHeartbeats 4000000 in
set_option maxRecDepth 100000 in
theorem w_X9_writeRoof_L12 {p : Program} {l : Launch} {e : Env} {s : State} {m : MethodId} {args : Array Value} {below : List Frame} {meth : Method} {c : Code} {D : va_G} {cy : Nat → ClassId} {s00 : State} {ad : Nat → Nat} {A : Nat → Prop}  {r9 : Int32} {S9 : XS}  {K : Int32 → XS → Option (Int32 × XS)} (E : XE p s m args meth c cX9_writeRoof 2 RX9 (some .int) D cy s00) (hk : ∀ (m1 : Int32) (S1 : XS) (H : Heap) (locs : List Loc) (ls : Array Slot), K m1 S1 = some (r9, S9) → XH D cy s00 shMod ad S1 A s H locs → lv_has ls 2 [(0, .ref (ad 0)), (1, .int m1)] → W p l e (xrm 2) s m args below meth c H locs 0 0 (MQ below (xqi D cy shMod ad r9 S9 A) args s 0 0 A) (F0 m 76 ls [])) :
    ∀ (n : Nat) (m1 : Int32) (S : XS) (H : Heap) (locs : List Loc) (ls : Array Slot), f_X9_writeRoof_L12 K n m1 S = some (r9, S9) → XH D cy s00 shMod ad S A s H locs → lv_has ls 2 [(0, .ref (ad 0)), (1, .int m1)] → W p l e (xrm 2) s m args below meth c H locs 0 0 (MQ below (xqi D cy shMod ad r9 S9 A) args s 0 0 A) (F0 m 12 ls []) := by
  intro n
  induction n with
  | zero => intro m1 S H locs ls hf; cases hf
  | succ n ih =>
    intro m1 S H locs ls hf h hl
    rw [f_X9_writeRoof_L12] at hf
    refine lv_iload_n E.1 E.2.1 dX9_writeRoof_12 rfl (lv_at hl 1 rfl) ?_
    refine lv_aload_n E.1 E.2.1 dX9_writeRoof_13 rfl (lv_at hl 0 rfl) ?_
    refine x_getr E h 0 0 1 rfl rfl rfl (by decide) xinX9 kw1610 dX9_writeRoof_14 ?_
    refine lv_iconst (v := 0) E.1 E.2.1 dX9_writeRoof_17 (by decide) ?_
    refine x_iald E h 1 hf rfl dX9_writeRoof_18 (fun v3 hf => ?_)
    refine x_br hf (lv_icmp_ge (tgt := 76) E.1 E.2.1 dX9_writeRoof_19 (by decide)) (fun hf => ?_) (fun hf => ?_)
    · exact hk _ _ _ _ _ hf h (lv_sub hl [0, 1] rfl)
    · refine lv_iload_n E.1 E.2.1 dX9_writeRoof_22 rfl (lv_at hl 1 rfl) ?_
      refine x_br hf (lv_if_le (tgt := 32) E.1 E.2.1 dX9_writeRoof_23 (by decide)) (fun hf => ?_) (fun hf => ?_)
      · refine lv_aload_n E.1 E.2.1 dX9_writeRoof_32 rfl (lv_at hl 0 rfl) ?_
        refine lv_bipush (v := 48) E.1 E.2.1 dX9_writeRoof_33 (by decide) ?_
        refine lv_aload_n E.1 E.2.1 dX9_writeRoof_35 rfl (lv_at hl 0 rfl) ?_
        refine x_getr E h 0 0 1 rfl rfl rfl (by decide) xinX9 kw1610 dX9_writeRoof_36 ?_
        refine lv_bipush (v := 10) E.1 E.2.1 dX9_writeRoof_39 (by decide) ?_
        refine lv_iload_n E.1 E.2.1 dX9_writeRoof_41 rfl (lv_at hl 1 rfl) ?_
        refine lv_iadd E.1 E.2.1 dX9_writeRoof_42 ?_
        refine x_iald E h 1 hf rfl dX9_writeRoof_43 (fun v4 hf => ?_)
        refine lv_iadd E.1 E.2.1 dX9_writeRoof_44 ?_
        refine x_callv E h hl 0 hf (fun r0 hr => c_X9_write l D cy s00 _ S (48 + v4) r0 hr) m_X9_write rfl rfl kw1996 rfl rfl (Nat.le_of_ble_eq_true rfl) ⟨by decide, by decide⟩ ⟨Nat.zero_le _, Nat.zero_le _⟩ dX9_writeRoof_45 (fun S5 H locs hf h => ?_)
        refine lv_aload_n E.1 E.2.1 dX9_writeRoof_48 rfl (lv_at hl 0 rfl) ?_
        refine lv_bipush (v := 99) E.1 E.2.1 dX9_writeRoof_49 (by decide) ?_
        refine lv_aload_n E.1 E.2.1 dX9_writeRoof_51 rfl (lv_at hl 0 rfl) ?_
        refine lv_iload_n E.1 E.2.1 dX9_writeRoof_52 rfl (lv_at hl 1 rfl) ?_
        refine x_callp E h hl 0 hf (fun r0 hr => c_X9_sitter l D cy s00 _ S5 m1 r0 hr) m_X9_sitter rfl rfl kw1425 rfl rfl (Nat.le_of_ble_eq_true rfl) ⟨by decide, by decide⟩ ⟨Nat.zero_le _, Nat.zero_le _⟩ dX9_writeRoof_53 (fun v6 H locs hf h => ?_)
        refine x_callv E h hl 0 hf (fun r0 hr => c_X9_writeCat l D cy s00 _ S5 99 v6 r0 hr) m_X9_writeCat rfl rfl kw2000 rfl rfl (Nat.le_of_ble_eq_true rfl) ⟨by decide, by decide⟩ ⟨Nat.zero_le _, Nat.zero_le _⟩ dX9_writeRoof_56 (fun S7 H locs hf h => ?_)
        refine lv_aload_n E.1 E.2.1 dX9_writeRoof_59 rfl (lv_at hl 0 rfl) ?_
        refine lv_bipush (v := 111) E.1 E.2.1 dX9_writeRoof_60 (by decide) ?_
        refine lv_aload_n E.1 E.2.1 dX9_writeRoof_62 rfl (lv_at hl 0 rfl) ?_
        refine lv_iload_n E.1 E.2.1 dX9_writeRoof_63 rfl (lv_at hl 1 rfl) ?_
        refine x_callp E h hl 0 hf (fun r0 hr => c_X9_owner l D cy s00 _ S7 m1 r0 hr) m_X9_owner rfl rfl kw1465 rfl rfl (Nat.le_of_ble_eq_true rfl) ⟨by decide, by decide⟩ ⟨Nat.zero_le _, Nat.zero_le _⟩ dX9_writeRoof_64 (fun v8 H locs hf h => ?_)
        refine x_callv E h hl 0 hf (fun r0 hr => c_X9_writeCat l D cy s00 _ S7 111 v8 r0 hr) m_X9_writeCat rfl rfl kw2000 rfl rfl (Nat.le_of_ble_eq_true rfl) ⟨by decide, by decide⟩ ⟨Nat.zero_le _, Nat.zero_le _⟩ dX9_writeRoof_67 (fun S9 H locs hf h => ?_)
        refine x_nv hf (fun v10 e9 hf => ?_)
        refine lv_iinc (v := v10) (lv' := [(1, .int v10), (0, .ref (ad 0))]) E.1 E.2.1 dX9_writeRoof_70 hl (k := 1) rfl (by rw [e9]; rfl) (by decide) rfl (fun ls hl => ?_)
        refine lv_goto (tgt := 12) E.1 E.2.1 dX9_writeRoof_73 (by decide) ?_
        exact ih _ _ _ _ _ hf h (lv_sub hl [1, 0] rfl)
      · refine lv_aload_n E.1 E.2.1 dX9_writeRoof_26 rfl (lv_at hl 0 rfl) ?_
        refine lv_bipush (v := 32) E.1 E.2.1 dX9_writeRoof_27 (by decide) ?_
        refine x_callv E h hl 0 hf (fun r0 hr => c_X9_write l D cy s00 _ S 32 r0 hr) m_X9_write rfl rfl kw1996 rfl rfl (Nat.le_of_ble_eq_true rfl) ⟨by decide, by decide⟩ ⟨Nat.zero_le _, Nat.zero_le _⟩ dX9_writeRoof_29 (fun S11 H locs hf h => ?_)
        refine lv_aload_n E.1 E.2.1 dX9_writeRoof_32 rfl (lv_at hl 0 rfl) ?_
        refine lv_bipush (v := 48) E.1 E.2.1 dX9_writeRoof_33 (by decide) ?_
        refine lv_aload_n E.1 E.2.1 dX9_writeRoof_35 rfl (lv_at hl 0 rfl) ?_
        refine x_getr E h 0 0 1 rfl rfl rfl (by decide) xinX9 kw1610 dX9_writeRoof_36 ?_
        refine lv_bipush (v := 10) E.1 E.2.1 dX9_writeRoof_39 (by decide) ?_
        refine lv_iload_n E.1 E.2.1 dX9_writeRoof_41 rfl (lv_at hl 1 rfl) ?_
        refine lv_iadd E.1 E.2.1 dX9_writeRoof_42 ?_
        refine x_iald E h 1 hf rfl dX9_writeRoof_43 (fun v12 hf => ?_)
        refine lv_iadd E.1 E.2.1 dX9_writeRoof_44 ?_
        refine x_callv E h hl 0 hf (fun r0 hr => c_X9_write l D cy s00 _ S11 (48 + v12) r0 hr) m_X9_write rfl rfl kw1996 rfl rfl (Nat.le_of_ble_eq_true rfl) ⟨by decide, by decide⟩ ⟨Nat.zero_le _, Nat.zero_le _⟩ dX9_writeRoof_45 (fun S13 H locs hf h => ?_)
        refine lv_aload_n E.1 E.2.1 dX9_writeRoof_48 rfl (lv_at hl 0 rfl) ?_
        refine lv_bipush (v := 99) E.1 E.2.1 dX9_writeRoof_49 (by decide) ?_
        refine lv_aload_n E.1 E.2.1 dX9_writeRoof_51 rfl (lv_at hl 0 rfl) ?_
        refine lv_iload_n E.1 E.2.1 dX9_writeRoof_52 rfl (lv_at hl 1 rfl) ?_
        refine x_callp E h hl 0 hf (fun r0 hr => c_X9_sitter l D cy s00 _ S13 m1 r0 hr) m_X9_sitter rfl rfl kw1425 rfl rfl (Nat.le_of_ble_eq_true rfl) ⟨by decide, by decide⟩ ⟨Nat.zero_le _, Nat.zero_le _⟩ dX9_writeRoof_53 (fun v14 H locs hf h => ?_)
        refine x_callv E h hl 0 hf (fun r0 hr => c_X9_writeCat l D cy s00 _ S13 99 v14 r0 hr) m_X9_writeCat rfl rfl kw2000 rfl rfl (Nat.le_of_ble_eq_true rfl) ⟨by decide, by decide⟩ ⟨Nat.zero_le _, Nat.zero_le _⟩ dX9_writeRoof_56 (fun S15 H locs hf h => ?_)
        refine lv_aload_n E.1 E.2.1 dX9_writeRoof_59 rfl (lv_at hl 0 rfl) ?_
        refine lv_bipush (v := 111) E.1 E.2.1 dX9_writeRoof_60 (by decide) ?_
        refine lv_aload_n E.1 E.2.1 dX9_writeRoof_62 rfl (lv_at hl 0 rfl) ?_
        refine lv_iload_n E.1 E.2.1 dX9_writeRoof_63 rfl (lv_at hl 1 rfl) ?_
        refine x_callp E h hl 0 hf (fun r0 hr => c_X9_owner l D cy s00 _ S15 m1 r0 hr) m_X9_owner rfl rfl kw1465 rfl rfl (Nat.le_of_ble_eq_true rfl) ⟨by decide, by decide⟩ ⟨Nat.zero_le _, Nat.zero_le _⟩ dX9_writeRoof_64 (fun v16 H locs hf h => ?_)
        refine x_callv E h hl 0 hf (fun r0 hr => c_X9_writeCat l D cy s00 _ S15 111 v16 r0 hr) m_X9_writeCat rfl rfl kw2000 rfl rfl (Nat.le_of_ble_eq_true rfl) ⟨by decide, by decide⟩ ⟨Nat.zero_le _, Nat.zero_le _⟩ dX9_writeRoof_67 (fun S17 H locs hf h => ?_)
        refine x_nv hf (fun v18 e9 hf => ?_)
        refine lv_iinc (v := v18) (lv' := [(1, .int v18), (0, .ref (ad 0))]) E.1 E.2.1 dX9_writeRoof_70 hl (k := 1) rfl (by rw [e9]; rfl) (by decide) rfl (fun ls hl => ?_)
        refine lv_goto (tgt := 12) E.1 E.2.1 dX9_writeRoof_73 (by decide) ?_
        exact ih _ _ _ _ _ hf h (lv_sub hl [1, 0] rfl)
set_option maxHeartbeats 4000000 in
set_option maxRecDepth 100000 in
theorem c_X9_writeRoof (l : Launch) (D : va_G) (cy : Nat → ClassId) (s00 : State) (ad : Nat → Nat) (S : XS) (r9 : Int32) (S9 : XS) (hf : f_X9_writeRoof S = some (r9, S9)) : XI l yX9_writeRoof cX9_writeRoof 2 (some .int) 2 D cy s00 shMod ad S [.ref (ad 0)] r9 S9 := by
  refine XI.of (by decide) [(0, .ref (ad 0))] rfl (Nat.le_of_ble_eq_true rfl) (fun p e s m args below meth c A ls E h hl => ?_)
  unfold f_X9_writeRoof at hf
  refine lv_aload_n E.1 E.2.1 dX9_writeRoof_0 rfl (lv_at hl 0 rfl) ?_
  refine lv_iconst (v := 0) E.1 E.2.1 dX9_writeRoof_1 (by decide) ?_
  refine x_put (ty := .int) E h 0 16 hf rfl rfl rfl (by decide) xinX9 tyX9_ok nmX9 kw1626 rfl (by decide +kernel) rfl rfl dX9_writeRoof_2 (fun S1 H locs hf h => ?_)
  refine lv_aload_n E.1 E.2.1 dX9_writeRoof_5 rfl (lv_at hl 0 rfl) ?_
  refine lv_iconst (v := 0) E.1 E.2.1 dX9_writeRoof_6 (by decide) ?_
  refine x_put (ty := .int) E h 0 15 hf rfl rfl rfl (by decide) xinX9 tyX9_ok nmX9 kw1625 rfl (by decide +kernel) rfl rfl dX9_writeRoof_7 (fun S2 H locs hf h => ?_)
  refine lv_iconst (v := 0) E.1 E.2.1 dX9_writeRoof_10 (by decide) ?_
  refine lv_istore_n (lv' := [(1, .int 0), (0, .ref (ad 0))]) E.1 E.2.1 dX9_writeRoof_11 rfl hl (by decide) rfl (fun ls hl => ?_)
  refine w_X9_writeRoof_L12 E ?_ _ _ _ _ _ _ hf h (lv_sub hl [1, 0] rfl)
  intro v19 S20 H locs ls hf h hl
  refine lv_aload_n E.1 E.2.1 dX9_writeRoof_76 rfl (lv_at hl 0 rfl) ?_
  refine x_get E h 0 15 rfl rfl rfl (by decide) xinX9 kw1625 dX9_writeRoof_77 ?_
  exact x_iret E h hf dX9_writeRoof_80
set_option maxHeartbeats 4000000 in
set_option maxRecDepth 100000 in
theorem c_X9_reportByte (l : Launch) (D : va_G) (cy : Nat → ClassId) (s00 : State) (ad : Nat → Nat) (S : XS) (p0 : Int32) (r9 : Int32) (S9 : XS) (hf : f_X9_reportByte S p0 = some (r9, S9)) : XI l yX9_reportByte cX9_reportByte 2 (some .int) 1 D cy s00 shMod ad S [.ref (ad 0), .int p0] r9 S9 := by
  refine XI.of (by decide) [(0, .ref (ad 0)), (1, .int p0)] rfl (Nat.le_of_ble_eq_true rfl) (fun p e s m args below meth c A ls E h hl => ?_)
  unfold f_X9_reportByte at hf
  refine lv_aload_n E.1 E.2.1 dX9_reportByte_0 rfl (lv_at hl 0 rfl) ?_
  refine lv_iconst (v := 0) E.1 E.2.1 dX9_reportByte_1 (by decide) ?_
  refine x_put (ty := .int) E h 0 16 hf rfl rfl rfl (by decide) xinX9 tyX9_ok nmX9 kw1626 rfl (by decide +kernel) rfl rfl dX9_reportByte_2 (fun S1 H locs hf h => ?_)
  refine lv_iload_n E.1 E.2.1 dX9_reportByte_5 rfl (lv_at hl 1 rfl) ?_
  refine lv_iconst (v := 0) E.1 E.2.1 dX9_reportByte_6 (by decide) ?_
  refine lv_aload_n E.1 E.2.1 dX9_reportByte_7 rfl (lv_at hl 0 rfl) ?_
  refine x_get E h 0 15 rfl rfl rfl (by decide) xinX9 kw1625 dX9_reportByte_8 ?_
  refine lv_iconst (v := 1) E.1 E.2.1 dX9_reportByte_11 (by decide) ?_
  refine lv_isub E.1 E.2.1 dX9_reportByte_12 ?_
  refine x_callsp E h hl hf (fun r0 hr => c_X9_in l D cy s00 _ _ p0 0 ((S1 0 15) - 1) r0 hr) m_X9_in kw1378 rfl rfl (Nat.le_of_ble_eq_true rfl) ⟨by decide, by decide⟩ ⟨Nat.zero_le _, Nat.zero_le _⟩ dX9_reportByte_13 (fun v2 H locs hf h => ?_)
  refine x_br hf (lv_if_eq (tgt := 28) E.1 E.2.1 dX9_reportByte_16 (by decide)) (fun hf => ?_) (fun hf => ?_)
  · refine lv_iconst (v := (-1)) E.1 E.2.1 dX9_reportByte_28 (by decide) ?_
    exact x_iret E h hf dX9_reportByte_29
  · refine lv_aload_n E.1 E.2.1 dX9_reportByte_19 rfl (lv_at hl 0 rfl) ?_
    refine x_getr E h 0 14 9 rfl rfl rfl (by decide) xinX9 kw1624 dX9_reportByte_20 ?_
    refine lv_iload_n E.1 E.2.1 dX9_reportByte_23 rfl (lv_at hl 1 rfl) ?_
    refine x_cald E h 9 hf rfl dX9_reportByte_24 (fun v3 hf => ?_)
    refine lv_goto (tgt := 29) E.1 E.2.1 dX9_reportByte_25 (by decide) ?_
    exact x_iret E h hf dX9_reportByte_29
set_option maxHeartbeats 4000000 in
set_option maxRecDepth 100000 in
theorem w_X9_readsRepeat_L51 {p : Program} {l : Launch} {e : Env} {s : State} {m : MethodId} {args : Array Value} {below : List Frame} {meth : Method} {c : Code} {D : va_G} {cy : Nat → ClassId} {s00 : State} {ad : Nat → Nat} {A : Nat → Prop}  {r9 : Int32} {S9 : XS} {dq : Nat} (hdq : 3 ≤ dq) {RC : XS → Int32 → Option (Int32 × XS)} (hRC : ∀ (S : XS) (x r : Int32) (S2 : XS), RC S x = some (r, S2) → XI l yX9_readsCommand cX9_readsCommand 3 (some .boolean) dq D cy s00 shMod ad S [.ref (ad 0), .int x] r S2) {u1 : Int32} {u2 : Int32} {u3 : Int32} {u4 : Int32} {K : XS → Option (Int32 × XS)} (E : XE p s m args meth c cX9_readsRepeat 5 RX9 (some .boolean) D cy s00) (hk : ∀ (S1 : XS) (H : Heap) (locs : List Loc) (ls : Array Slot), K S1 = some (r9, S9) → XH D cy s00 shMod ad S1 A s H locs → lv_has ls 5 [(0, .ref (ad 0)), (1, .int u1), (2, .int u2), (3, .int u3), (4, .int u4)] → W p l e (xrm (dq + 1)) s m args below meth c H locs 0 0 (MQ below (xqi D cy shMod ad r9 S9 A) args s 0 0 A) (F0 m 78 ls [])) :
    ∀ (n : Nat) (S : XS) (H : Heap) (locs : List Loc) (ls : Array Slot), f_X9_readsRepeat_L51 RC K u1 u2 u3 u4 n S = some (r9, S9) → XH D cy s00 shMod ad S A s H locs → lv_has ls 5 [(0, .ref (ad 0)), (1, .int u1), (2, .int u2), (3, .int u3), (4, .int u4)] → W p l e (xrm (dq + 1)) s m args below meth c H locs 0 0 (MQ below (xqi D cy shMod ad r9 S9 A) args s 0 0 A) (F0 m 51 ls []) := by
  intro n
  induction n with
  | zero => intro S H locs ls hf; cases hf
  | succ n ih =>
    intro S H locs ls hf h hl
    rw [f_X9_readsRepeat_L51] at hf
    refine lv_aload_n E.1 E.2.1 dX9_readsRepeat_51 rfl (lv_at hl 0 rfl) ?_
    refine x_get E h 0 17 rfl rfl rfl (by decide) xinX9 kw1627 dX9_readsRepeat_52 ?_
    refine lv_iconst (v := 5) E.1 E.2.1 dX9_readsRepeat_55 (by decide) ?_
    refine x_br hf (lv_icmp_eq (tgt := 78) E.1 E.2.1 dX9_readsRepeat_56 (by decide)) (fun hf => ?_) (fun hf => ?_)
    · exact hk _ _ _ _ hf h (lv_sub hl [0, 1, 2, 3, 4] rfl)
    · refine lv_aload_n E.1 E.2.1 dX9_readsRepeat_59 rfl (lv_at hl 0 rfl) ?_
      refine lv_iload_n E.1 E.2.1 dX9_readsRepeat_60 rfl (lv_at hl 1 rfl) ?_
      refine lv_iconst (v := 1) E.1 E.2.1 dX9_readsRepeat_61 (by decide) ?_
      refine lv_iadd E.1 E.2.1 dX9_readsRepeat_62 ?_
      refine x_calli E h hl 0 hf (fun r0 Sq0 hr => hRC _ _ r0 Sq0 hr) m_X9_readsCommand rfl rfl kw1345 rfl rfl (Nat.le_of_ble_eq_true rfl) (by constructor <;> simp only [xrm] <;> omega) ⟨Nat.zero_le _, Nat.zero_le _⟩ dX9_readsRepeat_63 (fun v9 S10 H locs hf h => ?_)
      refine x_brn hf (lv_if_ne (tgt := 71) E.1 E.2.1 dX9_readsRepeat_66 (by decide)) (fun hf => ?_) (fun hf => ?_)
      · refine lv_aload_n E.1 E.2.1 dX9_readsRepeat_71 rfl (lv_at hl 0 rfl) ?_
        refine x_callv E h hl 0 hf (fun r0 hr => c_X9_next l D cy s00 _ S10  r0 hr) m_X9_next rfl rfl kw1321 rfl rfl (Nat.le_of_ble_eq_true rfl) (by constructor <;> simp only [xrm] <;> omega) ⟨Nat.zero_le _, Nat.zero_le _⟩ dX9_readsRepeat_72 (fun S11 H locs hf h => ?_)
        refine lv_goto (tgt := 51) E.1 E.2.1 dX9_readsRepeat_75 (by decide) ?_
        exact ih _ _ _ _ hf h (lv_sub hl [0, 1, 2, 3, 4] rfl)
      · refine lv_iconst (v := 0) E.1 E.2.1 dX9_readsRepeat_69 (by decide) ?_
        exact x_zic E h (by decide) hf dX9_readsRepeat_70
set_option maxHeartbeats 4000000 in
set_option maxRecDepth 100000 in
theorem w_X9_readsRepeat_L36 {p : Program} {l : Launch} {e : Env} {s : State} {m : MethodId} {args : Array Value} {below : List Frame} {meth : Method} {c : Code} {D : va_G} {cy : Nat → ClassId} {s00 : State} {ad : Nat → Nat} {A : Nat → Prop}  {r9 : Int32} {S9 : XS} {dq : Nat} (hdq : 3 ≤ dq) {RC : XS → Int32 → Option (Int32 × XS)} (hRC : ∀ (S : XS) (x r : Int32) (S2 : XS), RC S x = some (r, S2) → XI l yX9_readsCommand cX9_readsCommand 3 (some .boolean) dq D cy s00 shMod ad S [.ref (ad 0), .int x] r S2) {u1 : Int32} {u2 : Int32} {u3 : Int32} {K : Int32 → XS → Option (Int32 × XS)} (E : XE p s m args meth c cX9_readsRepeat 5 RX9 (some .boolean) D cy s00) (hk : ∀ (m4 : Int32) (S1 : XS) (H : Heap) (locs : List Loc) (ls : Array Slot), K m4 S1 = some (r9, S9) → XH D cy s00 shMod ad S1 A s H locs → lv_has ls 5 [(0, .ref (ad 0)), (1, .int u1), (2, .int u2), (3, .int u3), (4, .int m4)] → W p l e (xrm (dq + 1)) s m args below meth c H locs 0 0 (MQ below (xqi D cy shMod ad r9 S9 A) args s 0 0 A) (F0 m 84 ls [])) :
    ∀ (n : Nat) (m4 : Int32) (S : XS) (H : Heap) (locs : List Loc) (ls : Array Slot), f_X9_readsRepeat_L36 RC K u1 u2 u3 n m4 S = some (r9, S9) → XH D cy s00 shMod ad S A s H locs → lv_has ls 5 [(0, .ref (ad 0)), (1, .int u1), (2, .int u2), (3, .int u3), (4, .int m4)] → W p l e (xrm (dq + 1)) s m args below meth c H locs 0 0 (MQ below (xqi D cy shMod ad r9 S9 A) args s 0 0 A) (F0 m 36 ls []) := by
  intro n
  induction n with
  | zero => intro m4 S H locs ls hf; cases hf
  | succ n ih =>
    intro m4 S H locs ls hf h hl
    rw [f_X9_readsRepeat_L36] at hf
    refine lv_iload E.1 E.2.1 dX9_readsRepeat_36 (lv_at hl 4 rfl) ?_
    refine lv_iload_n E.1 E.2.1 dX9_readsRepeat_38 rfl (lv_at hl 2 rfl) ?_
    refine x_br hf (lv_icmp_ge (tgt := 84) E.1 E.2.1 dX9_readsRepeat_39 (by decide)) (fun hf => ?_) (fun hf => ?_)
    · exact hk _ _ _ _ _ hf h (lv_sub hl [0, 1, 2, 3, 4] rfl)
    · refine lv_aload_n E.1 E.2.1 dX9_readsRepeat_42 rfl (lv_at hl 0 rfl) ?_
      refine lv_iload_n E.1 E.2.1 dX9_readsRepeat_43 rfl (lv_at hl 3 rfl) ?_
      refine x_put (ty := .int) E h 0 19 hf rfl rfl rfl (by decide) xinX9 tyX9_ok nmX9 kw1629 rfl (by decide +kernel) rfl rfl dX9_readsRepeat_44 (fun S7 H locs hf h => ?_)
      refine lv_aload_n E.1 E.2.1 dX9_readsRepeat_47 rfl (lv_at hl 0 rfl) ?_
      refine x_callv E h hl 0 hf (fun r0 hr => c_X9_next l D cy s00 _ S7  r0 hr) m_X9_next rfl rfl kw1321 rfl rfl (Nat.le_of_ble_eq_true rfl) (by constructor <;> simp only [xrm] <;> omega) ⟨Nat.zero_le _, Nat.zero_le _⟩ dX9_readsRepeat_48 (fun S8 H locs hf h => ?_)
      refine w_X9_readsRepeat_L51 hdq hRC E ?_ _ _ _ _ _ hf h (lv_sub hl [0, 1, 2, 3, 4] rfl)
      intro S12 H locs ls hf h hl
      refine x_nv hf (fun v13 e9 hf => ?_)
      refine lv_iinc (v := v13) (lv' := [(4, .int v13), (0, .ref (ad 0)), (1, .int u1), (2, .int u2), (3, .int u3)]) E.1 E.2.1 dX9_readsRepeat_78 hl (k := 4) rfl (by rw [e9]; rfl) (by decide) rfl (fun ls hl => ?_)
      refine lv_goto (tgt := 36) E.1 E.2.1 dX9_readsRepeat_81 (by decide) ?_
      exact ih _ _ _ _ _ hf h (lv_sub hl [1, 2, 3, 4, 0] rfl)
set_option maxHeartbeats 4000000 in
set_option maxRecDepth 100000 in
theorem c_X9_readsRepeat (l : Launch) (D : va_G) (cy : Nat → ClassId) (s00 : State) (ad : Nat → Nat) (dq : Nat) (hdq : 3 ≤ dq) (RC : XS → Int32 → Option (Int32 × XS)) (hRC : ∀ (S : XS) (x r : Int32) (S2 : XS), RC S x = some (r, S2) → XI l yX9_readsCommand cX9_readsCommand 3 (some .boolean) dq D cy s00 shMod ad S [.ref (ad 0), .int x] r S2) (S : XS) (p0 : Int32) (r9 : Int32) (S9 : XS) (hf : f_X9_readsRepeat RC S p0 = some (r9, S9)) : XI l yX9_readsRepeat cX9_readsRepeat 5 (some .boolean) (dq + 1) D cy s00 shMod ad S [.ref (ad 0), .int p0] r9 S9 := by
  refine XI.of (by decide) [(0, .ref (ad 0)), (1, .int p0)] rfl (Nat.le_of_ble_eq_true rfl) (fun p e s m args below meth c A ls E h hl => ?_)
  unfold f_X9_readsRepeat at hf
  refine lv_aload_n E.1 E.2.1 dX9_readsRepeat_0 rfl (lv_at hl 0 rfl) ?_
  refine lv_iconst (v := 0) E.1 E.2.1 dX9_readsRepeat_1 (by decide) ?_
  refine lv_iconst (v := 1) E.1 E.2.1 dX9_readsRepeat_2 (by decide) ?_
  refine lv_bipush (v := 20) E.1 E.2.1 dX9_readsRepeat_3 (by decide) ?_
  refine x_calli E h hl 0 hf (fun r0 Sq0 hr => c_X9_number l D cy s00 _ S 0 1 20 r0 Sq0 hr) m_X9_number rfl rfl kw1374 rfl rfl (Nat.le_of_ble_eq_true rfl) (by constructor <;> simp only [xrm] <;> omega) ⟨Nat.zero_le _, Nat.zero_le _⟩ dX9_readsRepeat_5 (fun v1 S2 H locs hf h => ?_)
  refine x_br hf (lv_if_eq (tgt := 19) E.1 E.2.1 dX9_readsRepeat_8 (by decide)) (fun hf => ?_) (fun hf => ?_)
  · refine lv_iconst (v := 0) E.1 E.2.1 dX9_readsRepeat_19 (by decide) ?_
    exact x_zic E h (by decide) hf dX9_readsRepeat_20
  · refine lv_aload_n E.1 E.2.1 dX9_readsRepeat_11 rfl (lv_at hl 0 rfl) ?_
    refine lv_iconst (v := 4) E.1 E.2.1 dX9_readsRepeat_12 (by decide) ?_
    refine x_calli E h hl 0 hf (fun r0 Sq0 hr => c_X9_is l D cy s00 _ S2 4 r0 Sq0 hr) m_X9_is rfl rfl kw1341 rfl rfl (Nat.le_of_ble_eq_true rfl) (by constructor <;> simp only [xrm] <;> omega) ⟨Nat.zero_le _, Nat.zero_le _⟩ dX9_readsRepeat_13 (fun v3 S4 H locs hf h => ?_)
    refine x_brn hf (lv_if_ne (tgt := 21) E.1 E.2.1 dX9_readsRepeat_16 (by decide)) (fun hf => ?_) (fun hf => ?_)
    · refine lv_aload_n E.1 E.2.1 dX9_readsRepeat_21 rfl (lv_at hl 0 rfl) ?_
      refine x_getr E h 0 22 10 rfl rfl rfl (by decide) xinX9 kw1632 dX9_readsRepeat_22 ?_
      refine lv_iconst (v := 0) E.1 E.2.1 dX9_readsRepeat_25 (by decide) ?_
      refine x_iald E h 10 hf rfl dX9_readsRepeat_26 (fun v5 hf => ?_)
      refine lv_istore_n (lv' := [(2, .int v5), (0, .ref (ad 0)), (1, .int p0)]) E.1 E.2.1 dX9_readsRepeat_27 rfl hl (by decide) rfl (fun ls hl => ?_)
      refine lv_aload_n E.1 E.2.1 dX9_readsRepeat_28 rfl (lv_at hl 1 rfl) ?_
      refine x_get E h 0 19 rfl rfl rfl (by decide) xinX9 kw1629 dX9_readsRepeat_29 ?_
      refine x_nm hf (fun v6 hf => ?_)
      refine lv_istore_n (lv' := [(3, .int v6), (2, .int v5), (0, .ref (ad 0)), (1, .int p0)]) E.1 E.2.1 dX9_readsRepeat_32 rfl hl (by decide) rfl (fun ls hl => ?_)
      refine lv_iconst (v := 0) E.1 E.2.1 dX9_readsRepeat_33 (by decide) ?_
      refine lv_istore (lv' := [(4, .int 0), (3, .int v6), (2, .int v5), (0, .ref (ad 0)), (1, .int p0)]) E.1 E.2.1 dX9_readsRepeat_34 hl (by decide) rfl (fun ls hl => ?_)
      refine w_X9_readsRepeat_L36 hdq hRC E ?_ _ _ _ _ _ _ hf h (lv_sub hl [3, 4, 2, 1, 0] rfl)
      intro v14 S15 H locs ls hf h hl
      refine lv_aload_n E.1 E.2.1 dX9_readsRepeat_84 rfl (lv_at hl 0 rfl) ?_
      refine x_callv E h hl 0 hf (fun r0 hr => c_X9_next l D cy s00 _ S15  r0 hr) m_X9_next rfl rfl kw1321 rfl rfl (Nat.le_of_ble_eq_true rfl) (by constructor <;> simp only [xrm] <;> omega) ⟨Nat.zero_le _, Nat.zero_le _⟩ dX9_readsRepeat_85 (fun S16 H locs hf h => ?_)
      refine lv_aload_n E.1 E.2.1 dX9_readsRepeat_88 rfl (lv_at hl 0 rfl) ?_
      refine lv_iconst (v := 1) E.1 E.2.1 dX9_readsRepeat_89 (by decide) ?_
      refine x_calli E h hl 0 hf (fun r0 Sq0 hr => c_X9_is l D cy s00 _ S16 1 r0 Sq0 hr) m_X9_is rfl rfl kw1341 rfl rfl (Nat.le_of_ble_eq_true rfl) (by constructor <;> simp only [xrm] <;> omega) ⟨Nat.zero_le _, Nat.zero_le _⟩ dX9_readsRepeat_90 (fun v17 S18 H locs hf h => ?_)
      exact x_zret E h hf dX9_readsRepeat_93
    · refine lv_iconst (v := 0) E.1 E.2.1 dX9_readsRepeat_19 (by decide) ?_
      exact x_zic E h (by decide) hf dX9_readsRepeat_20
set_option maxHeartbeats 4000000 in
set_option maxRecDepth 100000 in
theorem c_X9_readsCommand (l : Launch) (D : va_G) (cy : Nat → ClassId) (s00 : State) (ad : Nat → Nat) (dq : Nat) (hdq : 9 ≤ dq) (RR : XS → Int32 → Option (Int32 × XS)) (hRR : ∀ (S : XS) (x r : Int32) (S2 : XS), RR S x = some (r, S2) → XI l yX9_readsRepeat cX9_readsRepeat 5 (some .boolean) dq D cy s00 shMod ad S [.ref (ad 0), .int x] r S2) (hG : XG s00) (S : XS) (p0 : Int32) (r9 : Int32) (S9 : XS) (hf : f_X9_readsCommand RR S p0 = some (r9, S9)) : XI l yX9_readsCommand cX9_readsCommand 3 (some .boolean) (dq + 1) D cy s00 shMod ad S [.ref (ad 0), .int p0] r9 S9 := by
  refine XI.of (by decide) [(0, .ref (ad 0)), (1, .int p0)] rfl (Nat.le_of_ble_eq_true rfl) (fun p e s m args below meth c A ls E h hl => ?_)
  unfold f_X9_readsCommand at hf
  refine lv_aload_n E.1 E.2.1 dX9_readsCommand_0 rfl (lv_at hl 0 rfl) ?_
  refine x_callp E h hl 0 hf (fun r0 hr => c_X9_wordAhead l D cy s00 _ hG S  r0 hr) m_X9_wordAhead rfl rfl kw1349 rfl rfl (Nat.le_of_ble_eq_true rfl) (by constructor <;> simp only [xrm] <;> omega) ⟨Nat.zero_le _, Nat.zero_le _⟩ dX9_readsCommand_1 (fun v1 H locs hf h => ?_)
  refine lv_istore_n (lv' := [(2, .int v1), (0, .ref (ad 0)), (1, .int p0)]) E.1 E.2.1 dX9_readsCommand_4 rfl hl (by decide) rfl (fun ls hl => ?_)
  refine lv_iload_n E.1 E.2.1 dX9_readsCommand_5 rfl (lv_at hl 0 rfl) ?_
  refine lv_iconst (v := (-1)) E.1 E.2.1 dX9_readsCommand_6 (by decide) ?_
  refine x_brn hf (lv_icmp_ne (tgt := 16) E.1 E.2.1 dX9_readsCommand_7 (by decide)) (fun hf => ?_) (fun hf => ?_)
  · refine lv_iload_n E.1 E.2.1 dX9_readsCommand_16 rfl (lv_at hl 0 rfl) ?_
    refine lv_bipush (v := 12) E.1 E.2.1 dX9_readsCommand_17 (by decide) ?_
    refine x_brn hf (lv_icmp_ne (tgt := 43) E.1 E.2.1 dX9_readsCommand_19 (by decide)) (fun hf => ?_) (fun hf => ?_)
    · refine lv_aload_n E.1 E.2.1 dX9_readsCommand_43 rfl (lv_at hl 1 rfl) ?_
      refine x_get E h 0 21 rfl rfl rfl (by decide) xinX9 kw1631 dX9_readsCommand_44 ?_
      refine lv_sipush (v := 200) E.1 E.2.1 dX9_readsCommand_47 (by decide) ?_
      refine x_brn hf (lv_icmp_ne (tgt := 59) E.1 E.2.1 dX9_readsCommand_50 (by decide)) (fun hf => ?_) (fun hf => ?_)
      · refine lv_aload_n E.1 E.2.1 dX9_readsCommand_59 rfl (lv_at hl 1 rfl) ?_
        refine lv_dup E.1 E.2.1 dX9_readsCommand_60 rfl ?_
        refine x_get E h 0 21 rfl rfl rfl (by decide) xinX9 kw1631 dX9_readsCommand_61 ?_
        refine lv_iconst (v := 1) E.1 E.2.1 dX9_readsCommand_64 (by decide) ?_
        refine lv_iadd E.1 E.2.1 dX9_readsCommand_65 ?_
        refine x_put (ty := .int) E h 0 21 hf rfl rfl rfl (by decide) xinX9 tyX9_ok nmX9 kw1631 rfl (by decide +kernel) rfl rfl dX9_readsCommand_66 (fun S2 H locs hf h => ?_)
        refine lv_aload_n E.1 E.2.1 dX9_readsCommand_69 rfl (lv_at hl 1 rfl) ?_
        refine x_callv E h hl 0 hf (fun r0 hr => c_X9_next l D cy s00 _ S2  r0 hr) m_X9_next rfl rfl kw1321 rfl rfl (Nat.le_of_ble_eq_true rfl) (by constructor <;> simp only [xrm] <;> omega) ⟨Nat.zero_le _, Nat.zero_le _⟩ dX9_readsCommand_70 (fun S3 H locs hf h => ?_)
        refine lv_aload_n E.1 E.2.1 dX9_readsCommand_73 rfl (lv_at hl 1 rfl) ?_
        refine lv_iload_n E.1 E.2.1 dX9_readsCommand_74 rfl (lv_at hl 0 rfl) ?_
        refine x_calli E h hl 0 hf (fun r0 Sq0 hr => c_X9_readsWord l D cy s00 _ S3 v1 r0 Sq0 hr) m_X9_readsWord rfl rfl kw1381 rfl rfl (Nat.le_of_ble_eq_true rfl) (by constructor <;> simp only [xrm] <;> omega) ⟨Nat.zero_le _, Nat.zero_le _⟩ dX9_readsCommand_75 (fun v4 S5 H locs hf h => ?_)
        exact x_zret E h hf dX9_readsCommand_78
      · refine lv_aload_n E.1 E.2.1 dX9_readsCommand_53 rfl (lv_at hl 1 rfl) ?_
        refine lv_iconst (v := 5) E.1 E.2.1 dX9_readsCommand_54 (by decide) ?_
        refine x_calli E h hl 0 hf (fun r0 Sq0 hr => c_X9_fail l D cy s00 _ S 5 r0 Sq0 hr) m_X9_fail rfl rfl kw1337 rfl rfl (Nat.le_of_ble_eq_true rfl) (by constructor <;> simp only [xrm] <;> omega) ⟨Nat.zero_le _, Nat.zero_le _⟩ dX9_readsCommand_55 (fun v6 S7 H locs hf h => ?_)
        exact x_zret E h hf dX9_readsCommand_58
    · refine lv_iload_n E.1 E.2.1 dX9_readsCommand_22 rfl (lv_at hl 2 rfl) ?_
      refine lv_iconst (v := 2) E.1 E.2.1 dX9_readsCommand_23 (by decide) ?_
      refine x_brn hf (lv_icmp_ne (tgt := 33) E.1 E.2.1 dX9_readsCommand_24 (by decide)) (fun hf => ?_) (fun hf => ?_)
      · refine lv_aload_n E.1 E.2.1 dX9_readsCommand_33 rfl (lv_at hl 1 rfl) ?_
        refine x_callv E h hl 0 hf (fun r0 hr => c_X9_next l D cy s00 _ S  r0 hr) m_X9_next rfl rfl kw1321 rfl rfl (Nat.le_of_ble_eq_true rfl) (by constructor <;> simp only [xrm] <;> omega) ⟨Nat.zero_le _, Nat.zero_le _⟩ dX9_readsCommand_34 (fun S8 H locs hf h => ?_)
        refine lv_aload_n E.1 E.2.1 dX9_readsCommand_37 rfl (lv_at hl 1 rfl) ?_
        refine lv_iload_n E.1 E.2.1 dX9_readsCommand_38 rfl (lv_at hl 2 rfl) ?_
        refine x_calli E h hl 0 hf (fun r0 Sq0 hr => hRR _ _ r0 Sq0 hr) m_X9_readsRepeat rfl rfl kw1370 rfl rfl (Nat.le_of_ble_eq_true rfl) (by constructor <;> simp only [xrm] <;> omega) ⟨Nat.zero_le _, Nat.zero_le _⟩ dX9_readsCommand_39 (fun v9 S10 H locs hf h => ?_)
        exact x_zret E h hf dX9_readsCommand_42
      · refine lv_aload_n E.1 E.2.1 dX9_readsCommand_27 rfl (lv_at hl 1 rfl) ?_
        refine lv_iconst (v := 4) E.1 E.2.1 dX9_readsCommand_28 (by decide) ?_
        refine x_calli E h hl 0 hf (fun r0 Sq0 hr => c_X9_fail l D cy s00 _ S 4 r0 Sq0 hr) m_X9_fail rfl rfl kw1337 rfl rfl (Nat.le_of_ble_eq_true rfl) (by constructor <;> simp only [xrm] <;> omega) ⟨Nat.zero_le _, Nat.zero_le _⟩ dX9_readsCommand_29 (fun v11 S12 H locs hf h => ?_)
        exact x_zret E h hf dX9_readsCommand_32
  · refine lv_aload_n E.1 E.2.1 dX9_readsCommand_10 rfl (lv_at hl 1 rfl) ?_
    refine lv_iconst (v := 1) E.1 E.2.1 dX9_readsCommand_11 (by decide) ?_
    refine x_calli E h hl 0 hf (fun r0 Sq0 hr => c_X9_fail l D cy s00 _ S 1 r0 Sq0 hr) m_X9_fail rfl rfl kw1337 rfl rfl (Nat.le_of_ble_eq_true rfl) (by constructor <;> simp only [xrm] <;> omega) ⟨Nat.zero_le _, Nat.zero_le _⟩ dX9_readsCommand_12 (fun v13 S14 H locs hf h => ?_)
    exact x_zret E h hf dX9_readsCommand_15
