theorem kw435 : Cond.fieldLink RX8 33 (TX8 4).1 (TX8 4).2.1 (TX8 4).2.2.1 ∈ lwX := kw 435 (by decide +kernel) (by decide +kernel)
theorem kw314 : Cond.fieldLink RX8 65 (TX7 0).1 (TX7 0).2.1 (TX7 0).2.2.1 ∈ lwX := kw 314 (by decide +kernel) (by decide +kernel)
theorem kw288 : Cond.fieldLink RX8 69 (TX4 1).1 (TX4 1).2.1 (TX4 1).2.2.1 ∈ lwX := kw 288 (by decide +kernel) (by decide +kernel)
theorem kw454 : Cond.methodLink RX8 75 yX4_putFour ∈ lwX := kw 454 (by decide +kernel) (by decide +kernel)
theorem kw455 : Cond.instanceMethod yX4_putFour ∈ lwX := kw 455 (by decide +kernel) (by decide +kernel)
theorem kw456 : Cond.selects RX4 yX4_putFour yX4_putFour ∈ lwX := kw 456 (by decide +kernel) (by decide +kernel)
theorem kw457 : Cond.code yX4_putFour cX4_putFour 3 none ∈ lwX := kw 457 (by decide +kernel) (by decide +kernel)
theorem kw877 : Cond.classLink RX8 79 "java/lang/IllegalArgumentException" ∈ lwX := kw 877 (by decide +kernel) (by decide +kernel)
theorem kw133 : Cond.initialized "java/lang/IllegalArgumentException" ∈ lwX := kw 133 (by decide +kernel) (by decide +kernel)
theorem kw462 : Cond.methodLink RX8 86 yX7_execute ∈ lwX := kw 462 (by decide +kernel) (by decide +kernel)
theorem kw463 : Cond.instanceMethod yX7_execute ∈ lwX := kw 463 (by decide +kernel) (by decide +kernel)
theorem kw464 : Cond.selects RX7 yX7_execute yX7_execute ∈ lwX := kw 464 (by decide +kernel) (by decide +kernel)
theorem kw465 : Cond.code yX7_execute cX7_execute 3 none ∈ lwX := kw 465 (by decide +kernel) (by decide +kernel)
theorem kw318 : Cond.fieldLink RX8 89 (TX7 2).1 (TX7 2).2.1 (TX7 2).2.2.1 ∈ lwX := kw 318 (by decide +kernel) (by decide +kernel)
theorem kw434 : Cond.fieldLink RX8 26 (TX8 3).1 (TX8 3).2.1 (TX8 3).2.2.1 ∈ lwX := kw 434 (by decide +kernel) (by decide +kernel)
theorem kw431 : Cond.fieldLink RX8 10 (TX8 0).1 (TX8 0).2.1 (TX8 0).2.2.1 ∈ lwX := kw 431 (by decide +kernel) (by decide +kernel)
theorem kw716 : Cond.instanceMethod yX2_remember ∈ lwX := kw 716 (by decide +kernel) (by decide +kernel)
theorem kw717 : Cond.selects RX2 yX2_remember yX2_remember ∈ lwX := kw 717 (by decide +kernel) (by decide +kernel)
theorem kw119 : Cond.initialized RX2 ∈ lwX := kw 119 (by decide +kernel) (by decide +kernel)
theorem kw718 : Cond.code yX2_remember cX2_remember 2 none ∈ lwX := kw 718 (by decide +kernel) (by decide +kernel)
theorem kw715 : Cond.methodLink RX8 92 yX2_remember ∈ lwX := kw 715 (by decide +kernel) (by decide +kernel)
theorem kw316 : Cond.fieldLink RX8 96 (TX7 1).1 (TX7 1).2.1 (TX7 1).2.2.1 ∈ lwX := kw 316 (by decide +kernel) (by decide +kernel)
theorem kw731 : Cond.methodLink RX8 97 yX6_copyFrom ∈ lwX := kw 731 (by decide +kernel) (by decide +kernel)
theorem kw203 : Cond.fieldLink RX8 100 (TX6 7).1 (TX6 7).2.1 (TX6 7).2.2.1 ∈ lwX := kw 203 (by decide +kernel) (by decide +kernel)
theorem kw962 : Cond.classLink RX8 311 "java/lang/IllegalStateException" ∈ lwX := kw 962 (by decide +kernel) (by decide +kernel)
theorem kw139 : Cond.initialized "java/lang/IllegalStateException" ∈ lwX := kw 139 (by decide +kernel) (by decide +kernel)
theorem kw953 : Cond.methodLink RX8 103 yX8_needRange ∈ lwX := kw 953 (by decide +kernel) (by decide +kernel)
theorem kw955 : Cond.instanceMethod yX8_needRange ∈ lwX := kw 955 (by decide +kernel) (by decide +kernel)
theorem kw22 : Cond.selects RX8 yX8_needRange yX8_needRange ∈ lwX := kw 22 (by decide +kernel) (by decide +kernel)
theorem kw116 : Cond.initialized RX8 ∈ lwX := kw 116 (by decide +kernel) (by decide +kernel)
theorem kw956 : Cond.code yX8_needRange cX8_needRange 4 none ∈ lwX := kw 956 (by decide +kernel) (by decide +kernel)
theorem kw184 : Cond.fieldLink RX8 107 (TX6 0).1 (TX6 0).2.1 (TX6 0).2.2.1 ∈ lwX := kw 184 (by decide +kernel) (by decide +kernel)
theorem kw958 : Cond.methodLink RX8 110 yX8_refuseIf ∈ lwX := kw 958 (by decide +kernel) (by decide +kernel)
theorem kw960 : Cond.instanceMethod yX8_refuseIf ∈ lwX := kw 960 (by decide +kernel) (by decide +kernel)
theorem kw23 : Cond.selects RX8 yX8_refuseIf yX8_refuseIf ∈ lwX := kw 23 (by decide +kernel) (by decide +kernel)
theorem kw961 : Cond.code yX8_refuseIf cX8_refuseIf 2 none ∈ lwX := kw 961 (by decide +kernel) (by decide +kernel)
theorem kw363 : Cond.methodLink RX8 44 yX6_putChimney ∈ lwX := kw 363 (by decide +kernel) (by decide +kernel)
theorem kw990 : Cond.methodLink RX8 289 yX6_hasChimney ∈ lwX := kw 990 (by decide +kernel) (by decide +kernel)
theorem kw991 : Cond.classLink RX8 292 "java/lang/IndexOutOfBoundsException" ∈ lwX := kw 991 (by decide +kernel) (by decide +kernel)
theorem kw140 : Cond.initialized "java/lang/IndexOutOfBoundsException" ∈ lwX := kw 140 (by decide +kernel) (by decide +kernel)
theorem kw986 : Cond.methodLink RX8 114 yX8_needChimney ∈ lwX := kw 986 (by decide +kernel) (by decide +kernel)
theorem kw988 : Cond.instanceMethod yX8_needChimney ∈ lwX := kw 988 (by decide +kernel) (by decide +kernel)
theorem kw24 : Cond.selects RX8 yX8_needChimney yX8_needChimney ∈ lwX := kw 24 (by decide +kernel) (by decide +kernel)
theorem kw989 : Cond.code yX8_needChimney cX8_needChimney 2 none ∈ lwX := kw 989 (by decide +kernel) (by decide +kernel)
theorem kw1007 : Cond.methodLink RX8 117 yX8_needTwo ∈ lwX := kw 1007 (by decide +kernel) (by decide +kernel)
theorem kw1009 : Cond.instanceMethod yX8_needTwo ∈ lwX := kw 1009 (by decide +kernel) (by decide +kernel)
theorem kw25 : Cond.selects RX8 yX8_needTwo yX8_needTwo ∈ lwX := kw 25 (by decide +kernel) (by decide +kernel)
theorem kw1010 : Cond.code yX8_needTwo cX8_needTwo 3 none ∈ lwX := kw 1010 (by decide +kernel) (by decide +kernel)
theorem kw194 : Cond.fieldLink RX8 121 (TX6 3).1 (TX6 3).2.1 (TX6 3).2.2.1 ∈ lwX := kw 194 (by decide +kernel) (by decide +kernel)
theorem kw367 : Cond.methodLink RX8 48 yX6_putGutter ∈ lwX := kw 367 (by decide +kernel) (by decide +kernel)
theorem kw1019 : Cond.methodLink RX8 124 yX6_refusesCat ∈ lwX := kw 1019 (by decide +kernel) (by decide +kernel)
theorem kw371 : Cond.methodLink RX8 52 yX6_putCat ∈ lwX := kw 371 (by decide +kernel) (by decide +kernel)
theorem kw1031 : Cond.methodLink RX8 302 yX6_hasCat ∈ lwX := kw 1031 (by decide +kernel) (by decide +kernel)
theorem kw1037 : Cond.methodLink RX8 297 yX6_hasGutter ∈ lwX := kw 1037 (by decide +kernel) (by decide +kernel)
theorem kw1027 : Cond.methodLink RX8 128 yX8_needCat ∈ lwX := kw 1027 (by decide +kernel) (by decide +kernel)
theorem kw1029 : Cond.instanceMethod yX8_needCat ∈ lwX := kw 1029 (by decide +kernel) (by decide +kernel)
theorem kw26 : Cond.selects RX8 yX8_needCat yX8_needCat ∈ lwX := kw 26 (by decide +kernel) (by decide +kernel)
theorem kw1030 : Cond.code yX8_needCat cX8_needCat 2 none ∈ lwX := kw 1030 (by decide +kernel) (by decide +kernel)
theorem kw1033 : Cond.methodLink RX8 131 yX8_needGutter ∈ lwX := kw 1033 (by decide +kernel) (by decide +kernel)
theorem kw1035 : Cond.instanceMethod yX8_needGutter ∈ lwX := kw 1035 (by decide +kernel) (by decide +kernel)
theorem kw27 : Cond.selects RX8 yX8_needGutter yX8_needGutter ∈ lwX := kw 27 (by decide +kernel) (by decide +kernel)
theorem kw1036 : Cond.code yX8_needGutter cX8_needGutter 2 none ∈ lwX := kw 1036 (by decide +kernel) (by decide +kernel)
theorem kw1039 : Cond.methodLink RX8 134 yX6_stepRefusal ∈ lwX := kw 1039 (by decide +kernel) (by decide +kernel)
theorem kw1040 : Cond.methodLink RX8 138 yX6_walk ∈ lwX := kw 1040 (by decide +kernel) (by decide +kernel)
theorem kw1048 : Cond.methodLink RX8 141 yX6_claimRefusal ∈ lwX := kw 1048 (by decide +kernel) (by decide +kernel)
theorem kw375 : Cond.methodLink RX8 55 yX6_takeSeat ∈ lwX := kw 375 (by decide +kernel) (by decide +kernel)
theorem kw191 : Cond.fieldLink RX8 144 (TX6 2).1 (TX6 2).2.1 (TX6 2).2.2.1 ∈ lwX := kw 191 (by decide +kernel) (by decide +kernel)
theorem kw1056 : Cond.methodLink RX8 148 yX6_release ∈ lwX := kw 1056 (by decide +kernel) (by decide +kernel)
theorem kw1064 : Cond.methodLink RX8 151 yX6_chaseRefusal ∈ lwX := kw 1064 (by decide +kernel) (by decide +kernel)
theorem kw1065 : Cond.methodLink RX8 154 yX6_driveAway ∈ lwX := kw 1065 (by decide +kernel) (by decide +kernel)
theorem kw1073 : Cond.methodLink RX8 158 yX6_refusesTruce ∈ lwX := kw 1073 (by decide +kernel) (by decide +kernel)
theorem kw389 : Cond.methodLink RX8 58 yX6_agreeTruce ∈ lwX := kw 389 (by decide +kernel) (by decide +kernel)
theorem kw1081 : Cond.methodLink RX8 162 yX6_refusesKitten ∈ lwX := kw 1081 (by decide +kernel) (by decide +kernel)
theorem kw217 : Cond.fieldLink RX8 166 (TX6 16).1 (TX6 16).2.1 (TX6 16).2.2.1 ∈ lwX := kw 217 (by decide +kernel) (by decide +kernel)
theorem kw1082 : Cond.methodLink RX8 170 yX3_arrive ∈ lwX := kw 1082 (by decide +kernel) (by decide +kernel)
theorem kw1090 : Cond.methodLink RX8 175 yX6_refusesVote ∈ lwX := kw 1090 (by decide +kernel) (by decide +kernel)
theorem kw1091 : Cond.methodLink RX8 178 yX6_takeVote ∈ lwX := kw 1091 (by decide +kernel) (by decide +kernel)
theorem kw1099 : Cond.methodLink RX8 182 yX6_refusesNights ∈ lwX := kw 1099 (by decide +kernel) (by decide +kernel)
theorem kw393 : Cond.methodLink RX8 62 yX6_spendNights ∈ lwX := kw 393 (by decide +kernel) (by decide +kernel)
theorem kw266 : Cond.fieldLink RX8 185 (TX2 2).1 (TX2 2).2.1 (TX2 2).2.2.1 ∈ lwX := kw 266 (by decide +kernel) (by decide +kernel)
theorem kw737 : Cond.instanceMethod yX2_takeBack ∈ lwX := kw 737 (by decide +kernel) (by decide +kernel)
theorem kw738 : Cond.selects RX2 yX2_takeBack yX2_takeBack ∈ lwX := kw 738 (by decide +kernel) (by decide +kernel)
theorem kw739 : Cond.code yX2_takeBack cX2_takeBack 2 none ∈ lwX := kw 739 (by decide +kernel) (by decide +kernel)
theorem kw736 : Cond.methodLink RX8 188 yX2_takeBack ∈ lwX := kw 736 (by decide +kernel) (by decide +kernel)
theorem kw432 : Cond.fieldLink RX8 16 (TX8 1).1 (TX8 1).2.1 (TX8 1).2.2.1 ∈ lwX := kw 432 (by decide +kernel) (by decide +kernel)
theorem kw433 : Cond.fieldLink RX8 19 (TX8 2).1 (TX8 2).2.1 (TX8 2).2.2.1 ∈ lwX := kw 433 (by decide +kernel) (by decide +kernel)
theorem kw213 : Cond.fieldLink RX8 191 (TX6 13).1 (TX6 13).2.1 (TX6 13).2.2.1 ∈ lwX := kw 213 (by decide +kernel) (by decide +kernel)
theorem kw1124 : Cond.methodLink RX8 199 yX2_forget ∈ lwX := kw 1124 (by decide +kernel) (by decide +kernel)
theorem kw1125 : Cond.instanceMethod yX2_forget ∈ lwX := kw 1125 (by decide +kernel) (by decide +kernel)
theorem kw1126 : Cond.selects RX2 yX2_forget yX2_forget ∈ lwX := kw 1126 (by decide +kernel) (by decide +kernel)
theorem kw1127 : Cond.code yX2_forget cX2_forget 1 none ∈ lwX := kw 1127 (by decide +kernel) (by decide +kernel)
theorem kw1108 : Cond.classLink RX8 194 "java/util/NoSuchElementException" ∈ lwX := kw 1108 (by decide +kernel) (by decide +kernel)
theorem kw141 : Cond.initialized "java/util/NoSuchElementException" ∈ lwX := kw 141 (by decide +kernel) (by decide +kernel)
theorem kw320 : Cond.fieldLink RX8 202 (TX7 3).1 (TX7 3).2.1 (TX7 3).2.2.1 ∈ lwX := kw 320 (by decide +kernel) (by decide +kernel)
theorem kw188 : Cond.fieldLink RX8 205 (TX6 1).1 (TX6 1).2.1 (TX6 1).2.2.1 ∈ lwX := kw 188 (by decide +kernel) (by decide +kernel)
theorem kw1149 : Cond.methodLink RX8 208 yX6_sitter ∈ lwX := kw 1149 (by decide +kernel) (by decide +kernel)
theorem kw197 : Cond.fieldLink RX8 211 (TX6 4).1 (TX6 4).2.1 (TX6 4).2.2.1 ∈ lwX := kw 197 (by decide +kernel) (by decide +kernel)
theorem kw199 : Cond.fieldLink RX8 214 (TX6 5).1 (TX6 5).2.1 (TX6 5).2.2.1 ∈ lwX := kw 199 (by decide +kernel) (by decide +kernel)
theorem kw201 : Cond.fieldLink RX8 217 (TX6 6).1 (TX6 6).2.1 (TX6 6).2.2.1 ∈ lwX := kw 201 (by decide +kernel) (by decide +kernel)
theorem kw1171 : Cond.methodLink RX8 220 yX6_widestGirth ∈ lwX := kw 1171 (by decide +kernel) (by decide +kernel)
theorem kw1172 : Cond.instanceMethod yX6_widestGirth ∈ lwX := kw 1172 (by decide +kernel) (by decide +kernel)
theorem kw1173 : Cond.selects RX6 yX6_widestGirth yX6_widestGirth ∈ lwX := kw 1173 (by decide +kernel) (by decide +kernel)
theorem kw1174 : Cond.code yX6_widestGirth cX6_widestGirth 5 (some .int) ∈ lwX := kw 1174 (by decide +kernel) (by decide +kernel)
theorem kw780 : Cond.methodLink RX8 223 yX6_warmestSeat ∈ lwX := kw 780 (by decide +kernel) (by decide +kernel)
theorem kw205 : Cond.fieldLink RX8 227 (TX6 8).1 (TX6 8).2.1 (TX6 8).2.2.1 ∈ lwX := kw 205 (by decide +kernel) (by decide +kernel)
theorem kw1189 : Cond.methodLink RX8 230 yX6_might ∈ lwX := kw 1189 (by decide +kernel) (by decide +kernel)
theorem kw208 : Cond.fieldLink RX8 233 (TX6 10).1 (TX6 10).2.1 (TX6 10).2.2.1 ∈ lwX := kw 208 (by decide +kernel) (by decide +kernel)
theorem kw210 : Cond.fieldLink RX8 236 (TX6 11).1 (TX6 11).2.1 (TX6 11).2.2.1 ∈ lwX := kw 210 (by decide +kernel) (by decide +kernel)
theorem kw1211 : Cond.methodLink RX8 239 yX6_estate ∈ lwX := kw 1211 (by decide +kernel) (by decide +kernel)
theorem kw1219 : Cond.methodLink RX8 242 yX6_truceLeft ∈ lwX := kw 1219 (by decide +kernel) (by decide +kernel)
theorem kw1227 : Cond.methodLink RX8 245 yX6_walkable ∈ lwX := kw 1227 (by decide +kernel) (by decide +kernel)
theorem kw1238 : Cond.methodLink RX8 248 yX6_fewestSteps ∈ lwX := kw 1238 (by decide +kernel) (by decide +kernel)
theorem kw1239 : Cond.instanceMethod yX6_fewestSteps ∈ lwX := kw 1239 (by decide +kernel) (by decide +kernel)
theorem kw1240 : Cond.selects RX6 yX6_fewestSteps yX6_fewestSteps ∈ lwX := kw 1240 (by decide +kernel) (by decide +kernel)
theorem kw1241 : Cond.code yX6_fewestSteps cX6_fewestSteps 4 (some .int) ∈ lwX := kw 1241 (by decide +kernel) (by decide +kernel)
theorem kw164 : Cond.fieldLink RX8 251 (TX3 0).1 (TX3 0).2.1 (TX3 0).2.2.1 ∈ lwX := kw 164 (by decide +kernel) (by decide +kernel)
theorem kw789 : Cond.methodLink RX8 254 yX3_votes ∈ lwX := kw 789 (by decide +kernel) (by decide +kernel)
theorem kw171 : Cond.fieldLink RX8 257 (TX3 3).1 (TX3 3).2.1 (TX3 3).2.2.1 ∈ lwX := kw 171 (by decide +kernel) (by decide +kernel)
theorem kw798 : Cond.methodLink RX8 260 yX6_choirAround ∈ lwX := kw 798 (by decide +kernel) (by decide +kernel)
theorem kw803 : Cond.methodLink RX8 263 yX6_mainChoir ∈ lwX := kw 803 (by decide +kernel) (by decide +kernel)
theorem kw1299 : Cond.methodLink RX8 266 yX6_futureFish ∈ lwX := kw 1299 (by decide +kernel) (by decide +kernel)
theorem kw1300 : Cond.instanceMethod yX6_futureFish ∈ lwX := kw 1300 (by decide +kernel) (by decide +kernel)
theorem kw1301 : Cond.selects RX6 yX6_futureFish yX6_futureFish ∈ lwX := kw 1301 (by decide +kernel) (by decide +kernel)
theorem kw1302 : Cond.code yX6_futureFish cX6_futureFish 6 (some .int) ∈ lwX := kw 1302 (by decide +kernel) (by decide +kernel)
theorem kw816 : Cond.methodLink RX8 269 yX6_allFish ∈ lwX := kw 816 (by decide +kernel) (by decide +kernel)
theorem kw832 : Cond.methodLink RX8 272 yX6_fishMismatch ∈ lwX := kw 832 (by decide +kernel) (by decide +kernel)
theorem kw833 : Cond.instanceMethod yX6_fishMismatch ∈ lwX := kw 833 (by decide +kernel) (by decide +kernel)
theorem kw834 : Cond.selects RX6 yX6_fishMismatch yX6_fishMismatch ∈ lwX := kw 834 (by decide +kernel) (by decide +kernel)
theorem kw835 : Cond.code yX6_fishMismatch cX6_fishMismatch 1 (some .int) ∈ lwX := kw 835 (by decide +kernel) (by decide +kernel)
theorem kw840 : Cond.methodLink RX8 275 yX6_sharedChimneys ∈ lwX := kw 840 (by decide +kernel) (by decide +kernel)
theorem kw841 : Cond.instanceMethod yX6_sharedChimneys ∈ lwX := kw 841 (by decide +kernel) (by decide +kernel)
theorem kw842 : Cond.selects RX6 yX6_sharedChimneys yX6_sharedChimneys ∈ lwX := kw 842 (by decide +kernel) (by decide +kernel)
theorem kw843 : Cond.code yX6_sharedChimneys cX6_sharedChimneys 5 (some .int) ∈ lwX := kw 843 (by decide +kernel) (by decide +kernel)
theorem kw844 : Cond.methodLink RX8 278 yX6_brokenCats ∈ lwX := kw 844 (by decide +kernel) (by decide +kernel)
theorem kw845 : Cond.instanceMethod yX6_brokenCats ∈ lwX := kw 845 (by decide +kernel) (by decide +kernel)
theorem kw846 : Cond.selects RX6 yX6_brokenCats yX6_brokenCats ∈ lwX := kw 846 (by decide +kernel) (by decide +kernel)
theorem kw847 : Cond.code yX6_brokenCats cX6_brokenCats 3 (some .int) ∈ lwX := kw 847 (by decide +kernel) (by decide +kernel)
theorem kw436 : Cond.fieldLink RX8 40 (TX8 5).1 (TX8 5).2.1 (TX8 5).2.2.1 ∈ lwX := kw 436 (by decide +kernel) (by decide +kernel)
theorem kw853 : Cond.instanceMethod yX5_write ∈ lwX := kw 853 (by decide +kernel) (by decide +kernel)
theorem kw854 : Cond.selects RX5 yX5_write yX5_write ∈ lwX := kw 854 (by decide +kernel) (by decide +kernel)
theorem kw855 : Cond.code yX5_write cX5_write 3 none ∈ lwX := kw 855 (by decide +kernel) (by decide +kernel)
theorem kw852 : Cond.methodLink RX8 281 yX5_write ∈ lwX := kw 852 (by decide +kernel) (by decide +kernel)
theorem kw357 : Cond.fieldLink RX8 284 (TX5 1).1 (TX5 1).2.1 (TX5 1).2.2.1 ∈ lwX := kw 357 (by decide +kernel) (by decide +kernel)
theorem kw355 : Cond.fieldLink RX8 285 (TX5 0).1 (TX5 0).2.1 (TX5 0).2.2.1 ∈ lwX := kw 355 (by decide +kernel) (by decide +kernel)
theorem m_X4_putFour : xMem yX4_putFour RX4 cX4_putFour 3 none 1 := ⟨kw455, kw456, kw121, kw457, by decide +kernel, by decide +kernel, by decide +kernel, by decide +kernel⟩
theorem m_X7_execute : xMem yX7_execute RX7 cX7_execute 3 none 0 := ⟨kw463, kw464, kw120, kw465, by decide +kernel, by decide +kernel, by decide +kernel, by decide +kernel⟩
theorem m_X2_remember : xMem yX2_remember RX2 cX2_remember 2 none 1 := ⟨kw716, kw717, kw119, kw718, by decide +kernel, by decide +kernel, by decide +kernel, by decide +kernel⟩
theorem m_X8_needRange : xMem yX8_needRange RX8 cX8_needRange 4 none 3 := ⟨kw955, kw22, kw116, kw956, by decide +kernel, by decide +kernel, by decide +kernel, by decide +kernel⟩
theorem m_X8_refuseIf : xMem yX8_refuseIf RX8 cX8_refuseIf 2 none 1 := ⟨kw960, kw23, kw116, kw961, by decide +kernel, by decide +kernel, by decide +kernel, by decide +kernel⟩
theorem m_X8_needChimney : xMem yX8_needChimney RX8 cX8_needChimney 2 none 1 := ⟨kw988, kw24, kw116, kw989, by decide +kernel, by decide +kernel, by decide +kernel, by decide +kernel⟩
theorem m_X8_needTwo : xMem yX8_needTwo RX8 cX8_needTwo 3 none 2 := ⟨kw1009, kw25, kw116, kw1010, by decide +kernel, by decide +kernel, by decide +kernel, by decide +kernel⟩
theorem m_X8_needCat : xMem yX8_needCat RX8 cX8_needCat 2 none 1 := ⟨kw1029, kw26, kw116, kw1030, by decide +kernel, by decide +kernel, by decide +kernel, by decide +kernel⟩
theorem m_X8_needGutter : xMem yX8_needGutter RX8 cX8_needGutter 2 none 1 := ⟨kw1035, kw27, kw116, kw1036, by decide +kernel, by decide +kernel, by decide +kernel, by decide +kernel⟩
theorem m_X2_takeBack : xMem yX2_takeBack RX2 cX2_takeBack 2 none 1 := ⟨kw737, kw738, kw119, kw739, by decide +kernel, by decide +kernel, by decide +kernel, by decide +kernel⟩
theorem m_X2_forget : xMem yX2_forget RX2 cX2_forget 1 none 0 := ⟨kw1125, kw1126, kw119, kw1127, by decide +kernel, by decide +kernel, by decide +kernel, by decide +kernel⟩
theorem m_X6_widestGirth : xMem yX6_widestGirth RX6 cX6_widestGirth 5 (some .int) 2 := ⟨kw1172, kw1173, kw117, kw1174, by decide +kernel, by decide +kernel, by decide +kernel, by decide +kernel⟩
theorem m_X6_fewestSteps : xMem yX6_fewestSteps RX6 cX6_fewestSteps 4 (some .int) 2 := ⟨kw1239, kw1240, kw117, kw1241, by decide +kernel, by decide +kernel, by decide +kernel, by decide +kernel⟩
theorem m_X6_futureFish : xMem yX6_futureFish RX6 cX6_futureFish 6 (some .int) 2 := ⟨kw1300, kw1301, kw117, kw1302, by decide +kernel, by decide +kernel, by decide +kernel, by decide +kernel⟩
theorem m_X6_fishMismatch : xMem yX6_fishMismatch RX6 cX6_fishMismatch 1 (some .int) 0 := ⟨kw833, kw834, kw117, kw835, by decide +kernel, by decide +kernel, by decide +kernel, by decide +kernel⟩
theorem m_X6_sharedChimneys : xMem yX6_sharedChimneys RX6 cX6_sharedChimneys 5 (some .int) 0 := ⟨kw841, kw842, kw117, kw843, by decide +kernel, by decide +kernel, by decide +kernel, by decide +kernel⟩
theorem m_X6_brokenCats : xMem yX6_brokenCats RX6 cX6_brokenCats 3 (some .int) 0 := ⟨kw845, kw846, kw117, kw847, by decide +kernel, by decide +kernel, by decide +kernel, by decide +kernel⟩
theorem m_X5_write : xMem yX5_write RX5 cX5_write 3 none 1 := ⟨kw853, kw854, kw122, kw855, by decide +kernel, by decide +kernel, by decide +kernel, by decide +kernel⟩
set_option maxHeartbeats 4000000 in
set_option maxRecDepth 100000 in
theorem c_X8_append (l : Launch) (D : va_G) (cy : Nat → ClassId) (s00 : State) (ad : Nat → Nat) (S : XS) (p0 p1 p2 p3 p4 : Int32) (r9 : Int32) (S9 : XS) (hf : f_X8_append S p0 p1 p2 p3 p4 = some (r9, S9)) : XI l yX8_append cX8_append 7 (some .int) 1 D cy s00 shCats ad S [.ref (ad 0), .int p0, .int p1, .int p2, .int p3, .int p4] r9 S9 := by
  refine XI.of (by decide) [(0, .ref (ad 0)), (1, .int p0), (2, .int p1), (3, .int p2), (4, .int p3), (5, .int p4)] rfl (Nat.le_of_ble_eq_true rfl) (fun p e s m args below meth c A ls E h hl => ?_)
  unfold f_X8_append at hf
  refine lv_aload_n E.1 E.2.1 dX8_append_0 rfl (lv_at hl 0 rfl) ?_
  refine x_getr E h 0 4 133 rfl rfl rfl (by decide) xinX8 kw435 dX8_append_1 ?_
  refine x_getr E h 133 0 134 rfl rfl rfl (by decide) xinX7 kw314 dX8_append_4 ?_
  refine lv_astore (lv' := [(6, .ref (ad 134)), (0, .ref (ad 0)), (1, .int p0), (2, .int p1), (3, .int p2), (4, .int p3), (5, .int p4)]) E.1 E.2.1 dX8_append_7 hl (by decide) rfl (fun ls hl => ?_)
  refine lv_aload E.1 E.2.1 dX8_append_9 (lv_at hl 0 rfl) ?_
  refine x_get E h 134 1 rfl rfl rfl (by decide) xinX4 kw288 dX8_append_11 ?_
  refine lv_sipush (v := 580) E.1 E.2.1 dX8_append_14 (by decide) ?_
  refine x_br hf (lv_icmp_le (tgt := 22) E.1 E.2.1 dX8_append_17 (by decide)) (fun hf => ?_) (fun hf => ?_)
  · refine lv_aload E.1 E.2.1 dX8_append_22 (lv_at hl 0 rfl) ?_
    refine lv_iload_n E.1 E.2.1 dX8_append_24 rfl (lv_at hl 2 rfl) ?_
    refine x_callov E h hl 134 134 hf (xsub_of rfl) (fun r0 hr => c_X4_putFour l D cy s00 _ (xs 134 S) p0 r0 hr) m_X4_putFour rfl rfl kw454 rfl rfl (Nat.le_of_ble_eq_true rfl) ⟨by decide, by decide⟩ ⟨Nat.zero_le _, Nat.zero_le _⟩ dX8_append_25 (fun S1 H locs hf h => ?_)
    refine lv_aload E.1 E.2.1 dX8_append_28 (lv_at hl 0 rfl) ?_
    refine lv_iload_n E.1 E.2.1 dX8_append_30 rfl (lv_at hl 3 rfl) ?_
    refine x_callov E h hl 134 134 hf (xsub_of rfl) (fun r0 hr => c_X4_putFour l D cy s00 _ (xs 134 S1) p1 r0 hr) m_X4_putFour rfl rfl kw454 rfl rfl (Nat.le_of_ble_eq_true rfl) ⟨by decide, by decide⟩ ⟨Nat.zero_le _, Nat.zero_le _⟩ dX8_append_31 (fun S2 H locs hf h => ?_)
    refine lv_aload E.1 E.2.1 dX8_append_34 (lv_at hl 0 rfl) ?_
    refine lv_iload_n E.1 E.2.1 dX8_append_36 rfl (lv_at hl 4 rfl) ?_
    refine x_callov E h hl 134 134 hf (xsub_of rfl) (fun r0 hr => c_X4_putFour l D cy s00 _ (xs 134 S2) p2 r0 hr) m_X4_putFour rfl rfl kw454 rfl rfl (Nat.le_of_ble_eq_true rfl) ⟨by decide, by decide⟩ ⟨Nat.zero_le _, Nat.zero_le _⟩ dX8_append_37 (fun S3 H locs hf h => ?_)
    refine lv_aload E.1 E.2.1 dX8_append_40 (lv_at hl 0 rfl) ?_
    refine lv_iload E.1 E.2.1 dX8_append_42 (lv_at hl 5 rfl) ?_
    refine x_callov E h hl 134 134 hf (xsub_of rfl) (fun r0 hr => c_X4_putFour l D cy s00 _ (xs 134 S3) p3 r0 hr) m_X4_putFour rfl rfl kw454 rfl rfl (Nat.le_of_ble_eq_true rfl) ⟨by decide, by decide⟩ ⟨Nat.zero_le _, Nat.zero_le _⟩ dX8_append_44 (fun S4 H locs hf h => ?_)
    refine lv_aload E.1 E.2.1 dX8_append_47 (lv_at hl 0 rfl) ?_
    refine lv_iload E.1 E.2.1 dX8_append_49 (lv_at hl 6 rfl) ?_
    refine x_callov E h hl 134 134 hf (xsub_of rfl) (fun r0 hr => c_X4_putFour l D cy s00 _ (xs 134 S4) p4 r0 hr) m_X4_putFour rfl rfl kw454 rfl rfl (Nat.le_of_ble_eq_true rfl) ⟨by decide, by decide⟩ ⟨Nat.zero_le _, Nat.zero_le _⟩ dX8_append_51 (fun S5 H locs hf h => ?_)
    refine lv_aload E.1 E.2.1 dX8_append_54 (lv_at hl 0 rfl) ?_
    refine x_get E h 134 1 rfl rfl rfl (by decide) xinX4 kw288 dX8_append_56 ?_
    exact x_iret E h hf dX8_append_59
  · refine lv_iconst (v := (-1)) E.1 E.2.1 dX8_append_20 (by decide) ?_
    exact x_iret E h hf dX8_append_21
set_option maxHeartbeats 4000000 in
set_option maxRecDepth 100000 in
theorem c_X8_truncateInput (l : Launch) (D : va_G) (cy : Nat → ClassId) (s00 : State) (ad : Nat → Nat) (hT : l.stackTraces = false ∧ XDW s00) (hG : XG s00) (S : XS) (p0 : Int32) (E9 : Nat) (r9 : Int32) (S9 : XS) (hf : f_X8_truncateInput S p0 = some (E9, r9, S9)) : XXI l yX8_truncateInput cX8_truncateInput 2 (some .int) 6 1 D cy s00 shCats ad S [.ref (ad 0), .int p0] E9 r9 S9 := by
  refine XXI.of (by decide) [(0, .ref (ad 0)), (1, .int p0)] rfl (Nat.le_of_ble_eq_true rfl) (fun p e s m args below meth c A ls E h hl hex => ?_)
  unfold f_X8_truncateInput at hf
  refine lv_iload_n E.1 E.2.1 dX8_truncateInput_0 rfl (lv_at hl 1 rfl) ?_
  refine x_br hf (lv_if_lt (tgt := 18) E.1 E.2.1 dX8_truncateInput_1 (by decide)) (fun hf => ?_) (fun hf => ?_)
  · exact x_thr hT hG E h hl hex 2 rfl (by decide) (by decide +kernel) 1 rfl kw877 kw133 xat2 hf ⟨Nat.le_of_ble_eq_true rfl, Nat.le_of_ble_eq_true rfl⟩ ⟨Nat.le_of_ble_eq_true rfl, Nat.le_of_ble_eq_true rfl⟩ ⟨Nat.le_of_ble_eq_true rfl, Nat.le_of_ble_eq_true rfl⟩ dX8_truncateInput_18 dX8_truncateInput_21 dX8_truncateInput_22 dX8_truncateInput_24 dX8_truncateInput_27
  · refine lv_iload_n E.1 E.2.1 dX8_truncateInput_4 rfl (lv_at hl 1 rfl) ?_
    refine lv_aload_n E.1 E.2.1 dX8_truncateInput_5 rfl (lv_at hl 0 rfl) ?_
    refine x_getr E h 0 4 133 rfl rfl rfl (by decide) xinX8 kw435 dX8_truncateInput_6 ?_
    refine x_getr E h 133 0 134 rfl rfl rfl (by decide) xinX7 kw314 dX8_truncateInput_9 ?_
    refine x_get E h 134 1 rfl rfl rfl (by decide) xinX4 kw288 dX8_truncateInput_12 ?_
    refine x_br hf (lv_icmp_le (tgt := 28) E.1 E.2.1 dX8_truncateInput_15 (by decide)) (fun hf => ?_) (fun hf => ?_)
    · refine lv_aload_n E.1 E.2.1 dX8_truncateInput_28 rfl (lv_at hl 0 rfl) ?_
      refine x_getr E h 0 4 133 rfl rfl rfl (by decide) xinX8 kw435 dX8_truncateInput_29 ?_
      refine x_getr E h 133 0 134 rfl rfl rfl (by decide) xinX7 kw314 dX8_truncateInput_32 ?_
      refine lv_iload_n E.1 E.2.1 dX8_truncateInput_35 rfl (lv_at hl 1 rfl) ?_
      refine x_put (ty := .int) E h 134 1 hf rfl rfl rfl (by decide) xinX4 tyX4_ok nmX4 kw288 rfl (by decide +kernel) rfl rfl dX8_truncateInput_36 (fun S1 H locs hf h => ?_)
      refine lv_iload_n E.1 E.2.1 dX8_truncateInput_39 rfl (lv_at hl 1 rfl) ?_
      exact x_xiret E h hf ⟨Nat.le_of_ble_eq_true rfl, Nat.le_of_ble_eq_true rfl⟩ dX8_truncateInput_40
    · exact x_thr hT hG E h hl hex 2 rfl (by decide) (by decide +kernel) 1 rfl kw877 kw133 xat2 hf ⟨Nat.le_of_ble_eq_true rfl, Nat.le_of_ble_eq_true rfl⟩ ⟨Nat.le_of_ble_eq_true rfl, Nat.le_of_ble_eq_true rfl⟩ ⟨Nat.le_of_ble_eq_true rfl, Nat.le_of_ble_eq_true rfl⟩ dX8_truncateInput_18 dX8_truncateInput_21 dX8_truncateInput_22 dX8_truncateInput_24 dX8_truncateInput_27
set_option maxHeartbeats 4000000 in
set_option maxRecDepth 100000 in
theorem c_X8_runScript (l : Launch) (D : va_G) (cy : Nat → ClassId) (s00 : State) (ad : Nat → Nat) (hG : XG s00) {tE : xEnT} (hEn : XEn s00 tE) (S : XS) (r9 : Int32) (S9 : XS) (hf : f_X8_runScript S = some (r9, S9)) : XI l yX8_runScript cX8_runScript 1 (some .int) 8 D cy s00 shCats ad S [.ref (ad 0)] r9 S9 := by
  refine XI.of (by decide) [(0, .ref (ad 0))] rfl (Nat.le_of_ble_eq_true rfl) (fun p e s m args below meth c A ls E h hl => ?_)
  unfold f_X8_runScript at hf
  refine lv_aload_n E.1 E.2.1 dX8_runScript_0 rfl (lv_at hl 0 rfl) ?_
  refine x_getr E h 0 4 133 rfl rfl rfl (by decide) xinX8 kw435 dX8_runScript_1 ?_
  refine x_callov E h hl 133 133 hf (xsub_of rfl) (fun r0 hr => c_X7_execute l D cy s00 _ hG hEn (xs 133 S)  r0 hr) m_X7_execute rfl rfl kw462 rfl rfl (Nat.le_of_ble_eq_true rfl) ⟨by decide, by decide⟩ ⟨Nat.zero_le _, Nat.zero_le _⟩ dX8_runScript_4 (fun S1 H locs hf h => ?_)
  refine lv_aload_n E.1 E.2.1 dX8_runScript_7 rfl (lv_at hl 0 rfl) ?_
  refine x_getr E h 0 4 133 rfl rfl rfl (by decide) xinX8 kw435 dX8_runScript_8 ?_
  refine x_getr E h 133 0 134 rfl rfl rfl (by decide) xinX7 kw314 dX8_runScript_11 ?_
  refine lv_iconst (v := 0) E.1 E.2.1 dX8_runScript_14 (by decide) ?_
  refine x_put (ty := .int) E h 134 1 hf rfl rfl rfl (by decide) xinX4 tyX4_ok nmX4 kw288 rfl (by decide +kernel) rfl rfl dX8_runScript_15 (fun S2 H locs hf h => ?_)
  refine lv_aload_n E.1 E.2.1 dX8_runScript_18 rfl (lv_at hl 0 rfl) ?_
  refine x_getr E h 0 4 133 rfl rfl rfl (by decide) xinX8 kw435 dX8_runScript_19 ?_
  refine x_get E h 133 2 rfl rfl rfl (by decide) xinX7 kw318 dX8_runScript_22 ?_
  refine x_br hf (lv_if_eq (tgt := 30) E.1 E.2.1 dX8_runScript_25 (by decide)) (fun hf => ?_) (fun hf => ?_)
  · refine lv_aload_n E.1 E.2.1 dX8_runScript_30 rfl (lv_at hl 0 rfl) ?_
    refine x_getr E h 0 3 27 rfl rfl rfl (by decide) xinX8 kw434 dX8_runScript_31 ?_
    refine lv_aload_n E.1 E.2.1 dX8_runScript_34 rfl (lv_at hl 0 rfl) ?_
    refine x_getr E h 0 0 1 rfl rfl rfl (by decide) xinX8 kw431 dX8_runScript_35 ?_
    refine x_callFv (σ := xσ 27 106 1) (τ := xτ 27 106 1 13) E h hl 27 hf (xsubF_of (by decide +kernel)) (xinv_two (by omega)) (fun r0 hr => c_X2_remember l D cy s00 _ _ r0 hr) m_X2_remember rfl rfl kw715 rfl rfl (Nat.le_of_ble_eq_true rfl) ⟨by decide, by decide⟩ ⟨Nat.zero_le _, Nat.zero_le _⟩ dX8_runScript_38 (fun S3 H locs hf h => ?_)
    refine lv_aload_n E.1 E.2.1 dX8_runScript_41 rfl (lv_at hl 0 rfl) ?_
    refine x_getr E h 0 0 1 rfl rfl rfl (by decide) xinX8 kw431 dX8_runScript_42 ?_
    refine lv_aload_n E.1 E.2.1 dX8_runScript_45 rfl (lv_at hl 0 rfl) ?_
    refine x_getr E h 0 4 133 rfl rfl rfl (by decide) xinX8 kw435 dX8_runScript_46 ?_
    refine x_getr E h 133 1 136 rfl rfl rfl (by decide) xinX7 kw316 dX8_runScript_49 ?_
    refine x_callFv (σ := xσ 1 13 136) (τ := xτ 1 13 136 13) E h hl 1 hf (xsubF_of (by decide +kernel)) (xinv_two (by omega)) (fun r0 hr => c_X6_copyFrom l D cy s00 _ _ r0 hr) m_X6_copyFrom rfl rfl kw731 rfl rfl (Nat.le_of_ble_eq_true rfl) ⟨by decide, by decide⟩ ⟨Nat.zero_le _, Nat.zero_le _⟩ dX8_runScript_52 (fun S4 H locs hf h => ?_)
    refine lv_aload_n E.1 E.2.1 dX8_runScript_55 rfl (lv_at hl 0 rfl) ?_
    refine x_getr E h 0 0 1 rfl rfl rfl (by decide) xinX8 kw431 dX8_runScript_56 ?_
    refine x_get E h 1 7 rfl rfl rfl (by decide) xinX6 kw203 dX8_runScript_59 ?_
    exact x_iret E h hf dX8_runScript_62
  · refine lv_iconst (v := (-1)) E.1 E.2.1 dX8_runScript_28 (by decide) ?_
    exact x_iret E h hf dX8_runScript_29
set_option maxHeartbeats 4000000 in
set_option maxRecDepth 100000 in
theorem c_X8_needRange (l : Launch) (D : va_G) (cy : Nat → ClassId) (s00 : State) (ad : Nat → Nat) (hT : l.stackTraces = false ∧ XDW s00) (hG : XG s00) (S : XS) (p0 p1 p2 : Int32) (E9 : Nat) (r9 : Int32) (S9 : XS) (hf : f_X8_needRange S p0 p1 p2 = some (E9, r9, S9)) : XXV l yX8_needRange cX8_needRange 4 none 6 1 D cy s00 shCats ad S [.ref (ad 0), .int p0, .int p1, .int p2] E9 S9 := by
  refine XXV.of (by decide) [(0, .ref (ad 0)), (1, .int p0), (2, .int p1), (3, .int p2)] rfl (Nat.le_of_ble_eq_true rfl) (fun p e s m args below meth c A ls E h hl hex => ?_)
  unfold f_X8_needRange at hf
  refine lv_iload_n E.1 E.2.1 dX8_needRange_0 rfl (lv_at hl 1 rfl) ?_
  refine lv_iload_n E.1 E.2.1 dX8_needRange_1 rfl (lv_at hl 2 rfl) ?_
  refine x_br hf (lv_icmp_lt (tgt := 10) E.1 E.2.1 dX8_needRange_2 (by decide)) (fun hf => ?_) (fun hf => ?_)
  · exact x_thrW hT hG E h hl hex 2 rfl (by decide) (by decide +kernel) 2 rfl kw877 kw133 xat2 hf ⟨Nat.le_of_ble_eq_true rfl, Nat.le_of_ble_eq_true rfl⟩ ⟨Nat.le_of_ble_eq_true rfl, Nat.le_of_ble_eq_true rfl⟩ ⟨Nat.le_of_ble_eq_true rfl, Nat.le_of_ble_eq_true rfl⟩ dX8_needRange_10 dX8_needRange_13 dX8_needRange_14 dX8_needRange_17 dX8_needRange_20
  · refine lv_iload_n E.1 E.2.1 dX8_needRange_5 rfl (lv_at hl 1 rfl) ?_
    refine lv_iload_n E.1 E.2.1 dX8_needRange_6 rfl (lv_at hl 3 rfl) ?_
    refine x_br hf (lv_icmp_le (tgt := 21) E.1 E.2.1 dX8_needRange_7 (by decide)) (fun hf => ?_) (fun hf => ?_)
    · exact x_xvret E h hf ⟨Nat.le_of_ble_eq_true rfl, Nat.le_of_ble_eq_true rfl⟩ dX8_needRange_21
    · exact x_thrW hT hG E h hl hex 2 rfl (by decide) (by decide +kernel) 2 rfl kw877 kw133 xat2 hf ⟨Nat.le_of_ble_eq_true rfl, Nat.le_of_ble_eq_true rfl⟩ ⟨Nat.le_of_ble_eq_true rfl, Nat.le_of_ble_eq_true rfl⟩ ⟨Nat.le_of_ble_eq_true rfl, Nat.le_of_ble_eq_true rfl⟩ dX8_needRange_10 dX8_needRange_13 dX8_needRange_14 dX8_needRange_17 dX8_needRange_20
set_option maxHeartbeats 4000000 in
set_option maxRecDepth 100000 in
theorem c_X8_refuseIf (l : Launch) (D : va_G) (cy : Nat → ClassId) (s00 : State) (ad : Nat → Nat) (hT : l.stackTraces = false ∧ XDW s00) (hG : XG s00) (S : XS) (p0 : Int32) (E9 : Nat) (r9 : Int32) (S9 : XS) (hf : f_X8_refuseIf S p0 = some (E9, r9, S9)) : XXV l yX8_refuseIf cX8_refuseIf 2 none 6 1 D cy s00 shCats ad S [.ref (ad 0), .int p0] E9 S9 := by
  refine XXV.of (by decide) [(0, .ref (ad 0)), (1, .int p0)] rfl (Nat.le_of_ble_eq_true rfl) (fun p e s m args below meth c A ls E h hl hex => ?_)
  unfold f_X8_refuseIf at hf
  refine lv_iload_n E.1 E.2.1 dX8_refuseIf_0 rfl (lv_at hl 1 rfl) ?_
  refine x_br hf (lv_if_eq (tgt := 15) E.1 E.2.1 dX8_refuseIf_1 (by decide)) (fun hf => ?_) (fun hf => ?_)
  · exact x_xvret E h hf ⟨Nat.le_of_ble_eq_true rfl, Nat.le_of_ble_eq_true rfl⟩ dX8_refuseIf_15
  · exact x_thrW hT hG E h hl hex 3 rfl (by decide) (by decide +kernel) 3 rfl kw962 kw139 xat3 hf ⟨Nat.le_of_ble_eq_true rfl, Nat.le_of_ble_eq_true rfl⟩ ⟨Nat.le_of_ble_eq_true rfl, Nat.le_of_ble_eq_true rfl⟩ ⟨Nat.le_of_ble_eq_true rfl, Nat.le_of_ble_eq_true rfl⟩ dX8_refuseIf_4 dX8_refuseIf_7 dX8_refuseIf_8 dX8_refuseIf_11 dX8_refuseIf_14
set_option maxHeartbeats 4000000 in
set_option maxRecDepth 100000 in
theorem c_X8_addChimney (l : Launch) (D : va_G) (cy : Nat → ClassId) (s00 : State) (ad : Nat → Nat) (hT : l.stackTraces = false ∧ XDW s00) (hG : XG s00) (S : XS) (p0 : Int32) (E9 : Nat) (r9 : Int32) (S9 : XS) (hf : f_X8_addChimney S p0 = some (E9, r9, S9)) : XXI l yX8_addChimney cX8_addChimney 2 (some .int) 7 2 D cy s00 shCats ad S [.ref (ad 0), .int p0] E9 r9 S9 := by
  refine XXI.of (by decide) [(0, .ref (ad 0)), (1, .int p0)] rfl (Nat.le_of_ble_eq_true rfl) (fun p e s m args below meth c A ls E h hl hex => ?_)
  unfold f_X8_addChimney at hf
  refine lv_aload_n E.1 E.2.1 dX8_addChimney_0 rfl (lv_at hl 0 rfl) ?_
  refine lv_iload_n E.1 E.2.1 dX8_addChimney_1 rfl (lv_at hl 1 rfl) ?_
  refine lv_iconst (v := 0) E.1 E.2.1 dX8_addChimney_2 (by decide) ?_
  refine lv_bipush (v := 9) E.1 E.2.1 dX8_addChimney_3 (by decide) ?_
  refine x_xcallv E h hl hex 0 hf (fun E8 r8 S8 hr => c_X8_needRange l D cy s00 _ hT hG S p0 0 9 E8 r8 S8 hr) m_X8_needRange rfl rfl kw953 rfl rfl (Nat.le_of_ble_eq_true rfl) ⟨by decide, by decide⟩ ⟨Nat.le_of_ble_eq_true rfl, Nat.le_of_ble_eq_true rfl⟩ ⟨Nat.le_of_ble_eq_true rfl, Nat.le_of_ble_eq_true rfl⟩ dX8_addChimney_5 (fun _ S1 H locs hf h => ?_)
  refine lv_aload_n E.1 E.2.1 dX8_addChimney_8 rfl (lv_at hl 0 rfl) ?_
  refine lv_aload_n E.1 E.2.1 dX8_addChimney_9 rfl (lv_at hl 0 rfl) ?_
  refine x_getr E h 0 0 1 rfl rfl rfl (by decide) xinX8 kw431 dX8_addChimney_10 ?_
  refine x_get E h 1 0 rfl rfl rfl (by decide) xinX6 kw184 dX8_addChimney_13 ?_
  refine lv_bipush (v := 10) E.1 E.2.1 dX8_addChimney_16 (by decide) ?_
  refine x_br hf (lv_icmp_lt (tgt := 25) E.1 E.2.1 dX8_addChimney_18 (by decide)) (fun hf => ?_) (fun hf => ?_)
  · refine lv_iconst (v := 0) E.1 E.2.1 dX8_addChimney_25 (by decide) ?_
    refine x_xcallv E h hl hex 0 hf (fun E8 r8 S8 hr => c_X8_refuseIf l D cy s00 _ hT hG S1 0 E8 r8 S8 hr) m_X8_refuseIf rfl rfl kw958 rfl rfl (Nat.le_of_ble_eq_true rfl) ⟨by decide, by decide⟩ ⟨Nat.le_of_ble_eq_true rfl, Nat.le_of_ble_eq_true rfl⟩ ⟨Nat.le_of_ble_eq_true rfl, Nat.le_of_ble_eq_true rfl⟩ dX8_addChimney_26 (fun _ S2 H locs hf h => ?_)
    refine lv_aload_n E.1 E.2.1 dX8_addChimney_29 rfl (lv_at hl 0 rfl) ?_
    refine x_getr E h 0 3 27 rfl rfl rfl (by decide) xinX8 kw434 dX8_addChimney_30 ?_
    refine lv_aload_n E.1 E.2.1 dX8_addChimney_33 rfl (lv_at hl 0 rfl) ?_
    refine x_getr E h 0 0 1 rfl rfl rfl (by decide) xinX8 kw431 dX8_addChimney_34 ?_
    refine x_callFv (σ := xσ 27 106 1) (τ := xτ 27 106 1 13) E h hl 27 hf (xsubF_of (by decide +kernel)) (xinv_two (by omega)) (fun r0 hr => c_X2_remember l D cy s00 _ _ r0 hr) m_X2_remember rfl rfl kw715 rfl rfl (Nat.le_of_ble_eq_true rfl) ⟨by decide, by decide⟩ ⟨Nat.le_of_ble_eq_true rfl, Nat.le_of_ble_eq_true rfl⟩ dX8_addChimney_37 (fun S3 H locs hf h => ?_)
    refine lv_aload_n E.1 E.2.1 dX8_addChimney_40 rfl (lv_at hl 0 rfl) ?_
    refine x_getr E h 0 0 1 rfl rfl rfl (by decide) xinX8 kw431 dX8_addChimney_41 ?_
    refine lv_iload_n E.1 E.2.1 dX8_addChimney_44 rfl (lv_at hl 1 rfl) ?_
    refine x_calloi E h hl 1 1 hf (xsub_of rfl) (fun r0 Sq0 hr => c_X6_putChimney l D cy s00 _ (xs 1 S3) p0 r0 Sq0 hr) m_X6_putChimney rfl rfl kw363 rfl rfl (Nat.le_of_ble_eq_true rfl) ⟨by decide, by decide⟩ ⟨Nat.le_of_ble_eq_true rfl, Nat.le_of_ble_eq_true rfl⟩ dX8_addChimney_45 (fun v4 S5 H locs hf h => ?_)
    exact x_xiret E h hf ⟨Nat.le_of_ble_eq_true rfl, Nat.le_of_ble_eq_true rfl⟩ dX8_addChimney_48
  · refine lv_iconst (v := 1) E.1 E.2.1 dX8_addChimney_21 (by decide) ?_
    refine lv_goto (tgt := 26) E.1 E.2.1 dX8_addChimney_22 (by decide) ?_
    refine x_xcallv E h hl hex 0 hf (fun E8 r8 S8 hr => c_X8_refuseIf l D cy s00 _ hT hG S1 1 E8 r8 S8 hr) m_X8_refuseIf rfl rfl kw958 rfl rfl (Nat.le_of_ble_eq_true rfl) ⟨by decide, by decide⟩ ⟨Nat.le_of_ble_eq_true rfl, Nat.le_of_ble_eq_true rfl⟩ ⟨Nat.le_of_ble_eq_true rfl, Nat.le_of_ble_eq_true rfl⟩ dX8_addChimney_26 (fun _ S6 H locs hf h => ?_)
    refine lv_aload_n E.1 E.2.1 dX8_addChimney_29 rfl (lv_at hl 0 rfl) ?_
    refine x_getr E h 0 3 27 rfl rfl rfl (by decide) xinX8 kw434 dX8_addChimney_30 ?_
    refine lv_aload_n E.1 E.2.1 dX8_addChimney_33 rfl (lv_at hl 0 rfl) ?_
    refine x_getr E h 0 0 1 rfl rfl rfl (by decide) xinX8 kw431 dX8_addChimney_34 ?_
    refine x_callFv (σ := xσ 27 106 1) (τ := xτ 27 106 1 13) E h hl 27 hf (xsubF_of (by decide +kernel)) (xinv_two (by omega)) (fun r0 hr => c_X2_remember l D cy s00 _ _ r0 hr) m_X2_remember rfl rfl kw715 rfl rfl (Nat.le_of_ble_eq_true rfl) ⟨by decide, by decide⟩ ⟨Nat.le_of_ble_eq_true rfl, Nat.le_of_ble_eq_true rfl⟩ dX8_addChimney_37 (fun S7 H locs hf h => ?_)
    refine lv_aload_n E.1 E.2.1 dX8_addChimney_40 rfl (lv_at hl 0 rfl) ?_
    refine x_getr E h 0 0 1 rfl rfl rfl (by decide) xinX8 kw431 dX8_addChimney_41 ?_
    refine lv_iload_n E.1 E.2.1 dX8_addChimney_44 rfl (lv_at hl 1 rfl) ?_
    refine x_calloi E h hl 1 1 hf (xsub_of rfl) (fun r0 Sq0 hr => c_X6_putChimney l D cy s00 _ (xs 1 S7) p0 r0 Sq0 hr) m_X6_putChimney rfl rfl kw363 rfl rfl (Nat.le_of_ble_eq_true rfl) ⟨by decide, by decide⟩ ⟨Nat.le_of_ble_eq_true rfl, Nat.le_of_ble_eq_true rfl⟩ dX8_addChimney_45 (fun v8 S9 H locs hf h => ?_)
    exact x_xiret E h hf ⟨Nat.le_of_ble_eq_true rfl, Nat.le_of_ble_eq_true rfl⟩ dX8_addChimney_48
set_option maxHeartbeats 4000000 in
set_option maxRecDepth 100000 in
theorem c_X8_needChimney (l : Launch) (D : va_G) (cy : Nat → ClassId) (s00 : State) (ad : Nat → Nat) (hT : l.stackTraces = false ∧ XDW s00) (hG : XG s00) (S : XS) (p0 : Int32) (E9 : Nat) (r9 : Int32) (S9 : XS) (hf : f_X8_needChimney S p0 = some (E9, r9, S9)) : XXV l yX8_needChimney cX8_needChimney 2 none 6 1 D cy s00 shCats ad S [.ref (ad 0), .int p0] E9 S9 := by
  refine XXV.of (by decide) [(0, .ref (ad 0)), (1, .int p0)] rfl (Nat.le_of_ble_eq_true rfl) (fun p e s m args below meth c A ls E h hl hex => ?_)
  unfold f_X8_needChimney at hf
  refine lv_aload_n E.1 E.2.1 dX8_needChimney_0 rfl (lv_at hl 0 rfl) ?_
  refine x_getr E h 0 0 1 rfl rfl rfl (by decide) xinX8 kw431 dX8_needChimney_1 ?_
  refine lv_iload_n E.1 E.2.1 dX8_needChimney_4 rfl (lv_at hl 1 rfl) ?_
  refine x_callop E h hl 1 1 hf (xsub_of rfl) (fun r0 hr => c_X6_hasChimney l D cy s00 _ (xs 1 S) p0 r0 hr) m_X6_hasChimney rfl rfl kw990 rfl rfl (Nat.le_of_ble_eq_true rfl) ⟨by decide, by decide⟩ ⟨Nat.le_of_ble_eq_true rfl, Nat.le_of_ble_eq_true rfl⟩ dX8_needChimney_5 (fun v1 H locs hf h => ?_)
  refine x_brn hf (lv_if_ne (tgt := 22) E.1 E.2.1 dX8_needChimney_8 (by decide)) (fun hf => ?_) (fun hf => ?_)
  · exact x_xvret E h hf ⟨Nat.le_of_ble_eq_true rfl, Nat.le_of_ble_eq_true rfl⟩ dX8_needChimney_22
  · exact x_thrW hT hG E h hl hex 1 rfl (by decide) (by decide +kernel) 4 rfl kw991 kw140 xat1 hf ⟨Nat.le_of_ble_eq_true rfl, Nat.le_of_ble_eq_true rfl⟩ ⟨Nat.le_of_ble_eq_true rfl, Nat.le_of_ble_eq_true rfl⟩ ⟨Nat.le_of_ble_eq_true rfl, Nat.le_of_ble_eq_true rfl⟩ dX8_needChimney_11 dX8_needChimney_14 dX8_needChimney_15 dX8_needChimney_18 dX8_needChimney_21
set_option maxHeartbeats 4000000 in
set_option maxRecDepth 100000 in
theorem c_X8_needTwo (l : Launch) (D : va_G) (cy : Nat → ClassId) (s00 : State) (ad : Nat → Nat) (hT : l.stackTraces = false ∧ XDW s00) (hG : XG s00) (S : XS) (p0 p1 : Int32) (E9 : Nat) (r9 : Int32) (S9 : XS) (hf : f_X8_needTwo S p0 p1 = some (E9, r9, S9)) : XXV l yX8_needTwo cX8_needTwo 3 none 6 1 D cy s00 shCats ad S [.ref (ad 0), .int p0, .int p1] E9 S9 := by
  refine XXV.of (by decide) [(0, .ref (ad 0)), (1, .int p0), (2, .int p1)] rfl (Nat.le_of_ble_eq_true rfl) (fun p e s m args below meth c A ls E h hl hex => ?_)
  unfold f_X8_needTwo at hf
  refine lv_iload_n E.1 E.2.1 dX8_needTwo_0 rfl (lv_at hl 1 rfl) ?_
  refine lv_iload_n E.1 E.2.1 dX8_needTwo_1 rfl (lv_at hl 2 rfl) ?_
  refine x_brn hf (lv_icmp_ne (tgt := 16) E.1 E.2.1 dX8_needTwo_2 (by decide)) (fun hf => ?_) (fun hf => ?_)
  · exact x_xvret E h hf ⟨Nat.le_of_ble_eq_true rfl, Nat.le_of_ble_eq_true rfl⟩ dX8_needTwo_16
  · exact x_thrW hT hG E h hl hex 2 rfl (by decide) (by decide +kernel) 5 rfl kw877 kw133 xat2 hf ⟨Nat.le_of_ble_eq_true rfl, Nat.le_of_ble_eq_true rfl⟩ ⟨Nat.le_of_ble_eq_true rfl, Nat.le_of_ble_eq_true rfl⟩ ⟨Nat.le_of_ble_eq_true rfl, Nat.le_of_ble_eq_true rfl⟩ dX8_needTwo_5 dX8_needTwo_8 dX8_needTwo_9 dX8_needTwo_12 dX8_needTwo_15
set_option maxHeartbeats 4000000 in
set_option maxRecDepth 100000 in
theorem c_X8_addGutter (l : Launch) (D : va_G) (cy : Nat → ClassId) (s00 : State) (ad : Nat → Nat) (hT : l.stackTraces = false ∧ XDW s00) (hG : XG s00) (S : XS) (p0 p1 p2 : Int32) (E9 : Nat) (r9 : Int32) (S9 : XS) (hf : f_X8_addGutter S p0 p1 p2 = some (E9, r9, S9)) : XXI l yX8_addGutter cX8_addGutter 4 (some .int) 7 5 D cy s00 shCats ad S [.ref (ad 0), .int p0, .int p1, .int p2] E9 r9 S9 := by
  refine XXI.of (by decide) [(0, .ref (ad 0)), (1, .int p0), (2, .int p1), (3, .int p2)] rfl (Nat.le_of_ble_eq_true rfl) (fun p e s m args below meth c A ls E h hl hex => ?_)
  unfold f_X8_addGutter at hf
  refine lv_aload_n E.1 E.2.1 dX8_addGutter_0 rfl (lv_at hl 0 rfl) ?_
  refine lv_iload_n E.1 E.2.1 dX8_addGutter_1 rfl (lv_at hl 1 rfl) ?_
  refine x_xcallv E h hl hex 0 hf (fun E8 r8 S8 hr => c_X8_needChimney l D cy s00 _ hT hG S p0 E8 r8 S8 hr) m_X8_needChimney rfl rfl kw986 rfl rfl (Nat.le_of_ble_eq_true rfl) ⟨by decide, by decide⟩ ⟨Nat.le_of_ble_eq_true rfl, Nat.le_of_ble_eq_true rfl⟩ ⟨Nat.le_of_ble_eq_true rfl, Nat.le_of_ble_eq_true rfl⟩ dX8_addGutter_2 (fun _ S1 H locs hf h => ?_)
  refine lv_aload_n E.1 E.2.1 dX8_addGutter_5 rfl (lv_at hl 0 rfl) ?_
  refine lv_iload_n E.1 E.2.1 dX8_addGutter_6 rfl (lv_at hl 2 rfl) ?_
  refine x_xcallv E h hl hex 0 hf (fun E8 r8 S8 hr => c_X8_needChimney l D cy s00 _ hT hG S1 p1 E8 r8 S8 hr) m_X8_needChimney rfl rfl kw986 rfl rfl (Nat.le_of_ble_eq_true rfl) ⟨by decide, by decide⟩ ⟨Nat.le_of_ble_eq_true rfl, Nat.le_of_ble_eq_true rfl⟩ ⟨Nat.le_of_ble_eq_true rfl, Nat.le_of_ble_eq_true rfl⟩ dX8_addGutter_7 (fun _ S2 H locs hf h => ?_)
  refine lv_aload_n E.1 E.2.1 dX8_addGutter_10 rfl (lv_at hl 0 rfl) ?_
  refine lv_iload_n E.1 E.2.1 dX8_addGutter_11 rfl (lv_at hl 1 rfl) ?_
  refine lv_iload_n E.1 E.2.1 dX8_addGutter_12 rfl (lv_at hl 2 rfl) ?_
  refine x_xcallv E h hl hex 0 hf (fun E8 r8 S8 hr => c_X8_needTwo l D cy s00 _ hT hG S2 p0 p1 E8 r8 S8 hr) m_X8_needTwo rfl rfl kw1007 rfl rfl (Nat.le_of_ble_eq_true rfl) ⟨by decide, by decide⟩ ⟨Nat.le_of_ble_eq_true rfl, Nat.le_of_ble_eq_true rfl⟩ ⟨Nat.le_of_ble_eq_true rfl, Nat.le_of_ble_eq_true rfl⟩ dX8_addGutter_13 (fun _ S3 H locs hf h => ?_)
  refine lv_aload_n E.1 E.2.1 dX8_addGutter_16 rfl (lv_at hl 0 rfl) ?_
  refine lv_iload_n E.1 E.2.1 dX8_addGutter_17 rfl (lv_at hl 3 rfl) ?_
  refine lv_iconst (v := 1) E.1 E.2.1 dX8_addGutter_18 (by decide) ?_
  refine lv_bipush (v := 9) E.1 E.2.1 dX8_addGutter_19 (by decide) ?_
  refine x_xcallv E h hl hex 0 hf (fun E8 r8 S8 hr => c_X8_needRange l D cy s00 _ hT hG S3 p2 1 9 E8 r8 S8 hr) m_X8_needRange rfl rfl kw953 rfl rfl (Nat.le_of_ble_eq_true rfl) ⟨by decide, by decide⟩ ⟨Nat.le_of_ble_eq_true rfl, Nat.le_of_ble_eq_true rfl⟩ ⟨Nat.le_of_ble_eq_true rfl, Nat.le_of_ble_eq_true rfl⟩ dX8_addGutter_21 (fun _ S4 H locs hf h => ?_)
  refine lv_aload_n E.1 E.2.1 dX8_addGutter_24 rfl (lv_at hl 0 rfl) ?_
  refine lv_aload_n E.1 E.2.1 dX8_addGutter_25 rfl (lv_at hl 0 rfl) ?_
  refine x_getr E h 0 0 1 rfl rfl rfl (by decide) xinX8 kw431 dX8_addGutter_26 ?_
  refine x_get E h 1 3 rfl rfl rfl (by decide) xinX6 kw194 dX8_addGutter_29 ?_
  refine lv_bipush (v := 20) E.1 E.2.1 dX8_addGutter_32 (by decide) ?_
  refine x_br hf (lv_icmp_lt (tgt := 41) E.1 E.2.1 dX8_addGutter_34 (by decide)) (fun hf => ?_) (fun hf => ?_)
  · refine lv_iconst (v := 0) E.1 E.2.1 dX8_addGutter_41 (by decide) ?_
    refine x_xcallv E h hl hex 0 hf (fun E8 r8 S8 hr => c_X8_refuseIf l D cy s00 _ hT hG S4 0 E8 r8 S8 hr) m_X8_refuseIf rfl rfl kw958 rfl rfl (Nat.le_of_ble_eq_true rfl) ⟨by decide, by decide⟩ ⟨Nat.le_of_ble_eq_true rfl, Nat.le_of_ble_eq_true rfl⟩ ⟨Nat.le_of_ble_eq_true rfl, Nat.le_of_ble_eq_true rfl⟩ dX8_addGutter_42 (fun _ S5 H locs hf h => ?_)
    refine lv_aload_n E.1 E.2.1 dX8_addGutter_45 rfl (lv_at hl 0 rfl) ?_
    refine x_getr E h 0 3 27 rfl rfl rfl (by decide) xinX8 kw434 dX8_addGutter_46 ?_
    refine lv_aload_n E.1 E.2.1 dX8_addGutter_49 rfl (lv_at hl 0 rfl) ?_
    refine x_getr E h 0 0 1 rfl rfl rfl (by decide) xinX8 kw431 dX8_addGutter_50 ?_
    refine x_callFv (σ := xσ 27 106 1) (τ := xτ 27 106 1 13) E h hl 27 hf (xsubF_of (by decide +kernel)) (xinv_two (by omega)) (fun r0 hr => c_X2_remember l D cy s00 _ _ r0 hr) m_X2_remember rfl rfl kw715 rfl rfl (Nat.le_of_ble_eq_true rfl) ⟨by decide, by decide⟩ ⟨Nat.le_of_ble_eq_true rfl, Nat.le_of_ble_eq_true rfl⟩ dX8_addGutter_53 (fun S6 H locs hf h => ?_)
    refine lv_aload_n E.1 E.2.1 dX8_addGutter_56 rfl (lv_at hl 0 rfl) ?_
    refine x_getr E h 0 0 1 rfl rfl rfl (by decide) xinX8 kw431 dX8_addGutter_57 ?_
    refine lv_iload_n E.1 E.2.1 dX8_addGutter_60 rfl (lv_at hl 1 rfl) ?_
    refine lv_iload_n E.1 E.2.1 dX8_addGutter_61 rfl (lv_at hl 2 rfl) ?_
    refine lv_iload_n E.1 E.2.1 dX8_addGutter_62 rfl (lv_at hl 3 rfl) ?_
    refine x_calloi E h hl 1 1 hf (xsub_of rfl) (fun r0 Sq0 hr => c_X6_putGutter l D cy s00 _ (xs 1 S6) p0 p1 p2 r0 Sq0 hr) m_X6_putGutter rfl rfl kw367 rfl rfl (Nat.le_of_ble_eq_true rfl) ⟨by decide, by decide⟩ ⟨Nat.le_of_ble_eq_true rfl, Nat.le_of_ble_eq_true rfl⟩ dX8_addGutter_63 (fun v7 S8 H locs hf h => ?_)
    exact x_xiret E h hf ⟨Nat.le_of_ble_eq_true rfl, Nat.le_of_ble_eq_true rfl⟩ dX8_addGutter_66
  · refine lv_iconst (v := 1) E.1 E.2.1 dX8_addGutter_37 (by decide) ?_
    refine lv_goto (tgt := 42) E.1 E.2.1 dX8_addGutter_38 (by decide) ?_
    refine x_xcallv E h hl hex 0 hf (fun E8 r8 S8 hr => c_X8_refuseIf l D cy s00 _ hT hG S4 1 E8 r8 S8 hr) m_X8_refuseIf rfl rfl kw958 rfl rfl (Nat.le_of_ble_eq_true rfl) ⟨by decide, by decide⟩ ⟨Nat.le_of_ble_eq_true rfl, Nat.le_of_ble_eq_true rfl⟩ ⟨Nat.le_of_ble_eq_true rfl, Nat.le_of_ble_eq_true rfl⟩ dX8_addGutter_42 (fun _ S9 H locs hf h => ?_)
    refine lv_aload_n E.1 E.2.1 dX8_addGutter_45 rfl (lv_at hl 0 rfl) ?_
    refine x_getr E h 0 3 27 rfl rfl rfl (by decide) xinX8 kw434 dX8_addGutter_46 ?_
    refine lv_aload_n E.1 E.2.1 dX8_addGutter_49 rfl (lv_at hl 0 rfl) ?_
    refine x_getr E h 0 0 1 rfl rfl rfl (by decide) xinX8 kw431 dX8_addGutter_50 ?_
    refine x_callFv (σ := xσ 27 106 1) (τ := xτ 27 106 1 13) E h hl 27 hf (xsubF_of (by decide +kernel)) (xinv_two (by omega)) (fun r0 hr => c_X2_remember l D cy s00 _ _ r0 hr) m_X2_remember rfl rfl kw715 rfl rfl (Nat.le_of_ble_eq_true rfl) ⟨by decide, by decide⟩ ⟨Nat.le_of_ble_eq_true rfl, Nat.le_of_ble_eq_true rfl⟩ dX8_addGutter_53 (fun S10 H locs hf h => ?_)
    refine lv_aload_n E.1 E.2.1 dX8_addGutter_56 rfl (lv_at hl 0 rfl) ?_
    refine x_getr E h 0 0 1 rfl rfl rfl (by decide) xinX8 kw431 dX8_addGutter_57 ?_
    refine lv_iload_n E.1 E.2.1 dX8_addGutter_60 rfl (lv_at hl 1 rfl) ?_
    refine lv_iload_n E.1 E.2.1 dX8_addGutter_61 rfl (lv_at hl 2 rfl) ?_
    refine lv_iload_n E.1 E.2.1 dX8_addGutter_62 rfl (lv_at hl 3 rfl) ?_
    refine x_calloi E h hl 1 1 hf (xsub_of rfl) (fun r0 Sq0 hr => c_X6_putGutter l D cy s00 _ (xs 1 S10) p0 p1 p2 r0 Sq0 hr) m_X6_putGutter rfl rfl kw367 rfl rfl (Nat.le_of_ble_eq_true rfl) ⟨by decide, by decide⟩ ⟨Nat.le_of_ble_eq_true rfl, Nat.le_of_ble_eq_true rfl⟩ dX8_addGutter_63 (fun v11 S12 H locs hf h => ?_)
    exact x_xiret E h hf ⟨Nat.le_of_ble_eq_true rfl, Nat.le_of_ble_eq_true rfl⟩ dX8_addGutter_66
set_option maxHeartbeats 4000000 in
set_option maxRecDepth 100000 in
theorem c_X8_addCat (l : Launch) (D : va_G) (cy : Nat → ClassId) (s00 : State) (ad : Nat → Nat) (hT : l.stackTraces = false ∧ XDW s00) (hG : XG s00) (S : XS) (p0 p1 p2 : Int32) (E9 : Nat) (r9 : Int32) (S9 : XS) (hf : f_X8_addCat S p0 p1 p2 = some (E9, r9, S9)) : XXI l yX8_addCat cX8_addCat 4 (some .int) 7 4 D cy s00 shCats ad S [.ref (ad 0), .int p0, .int p1, .int p2] E9 r9 S9 := by
  refine XXI.of (by decide) [(0, .ref (ad 0)), (1, .int p0), (2, .int p1), (3, .int p2)] rfl (Nat.le_of_ble_eq_true rfl) (fun p e s m args below meth c A ls E h hl hex => ?_)
  unfold f_X8_addCat at hf
  refine lv_aload_n E.1 E.2.1 dX8_addCat_0 rfl (lv_at hl 0 rfl) ?_
  refine lv_iload_n E.1 E.2.1 dX8_addCat_1 rfl (lv_at hl 1 rfl) ?_
  refine x_xcallv E h hl hex 0 hf (fun E8 r8 S8 hr => c_X8_needChimney l D cy s00 _ hT hG S p0 E8 r8 S8 hr) m_X8_needChimney rfl rfl kw986 rfl rfl (Nat.le_of_ble_eq_true rfl) ⟨by decide, by decide⟩ ⟨Nat.le_of_ble_eq_true rfl, Nat.le_of_ble_eq_true rfl⟩ ⟨Nat.le_of_ble_eq_true rfl, Nat.le_of_ble_eq_true rfl⟩ dX8_addCat_2 (fun _ S1 H locs hf h => ?_)
  refine lv_aload_n E.1 E.2.1 dX8_addCat_5 rfl (lv_at hl 0 rfl) ?_
  refine lv_iload_n E.1 E.2.1 dX8_addCat_6 rfl (lv_at hl 2 rfl) ?_
  refine lv_iconst (v := 1) E.1 E.2.1 dX8_addCat_7 (by decide) ?_
  refine lv_bipush (v := 9) E.1 E.2.1 dX8_addCat_8 (by decide) ?_
  refine x_xcallv E h hl hex 0 hf (fun E8 r8 S8 hr => c_X8_needRange l D cy s00 _ hT hG S1 p1 1 9 E8 r8 S8 hr) m_X8_needRange rfl rfl kw953 rfl rfl (Nat.le_of_ble_eq_true rfl) ⟨by decide, by decide⟩ ⟨Nat.le_of_ble_eq_true rfl, Nat.le_of_ble_eq_true rfl⟩ ⟨Nat.le_of_ble_eq_true rfl, Nat.le_of_ble_eq_true rfl⟩ dX8_addCat_10 (fun _ S2 H locs hf h => ?_)
  refine lv_aload_n E.1 E.2.1 dX8_addCat_13 rfl (lv_at hl 0 rfl) ?_
  refine lv_iload_n E.1 E.2.1 dX8_addCat_14 rfl (lv_at hl 3 rfl) ?_
  refine lv_iconst (v := 1) E.1 E.2.1 dX8_addCat_15 (by decide) ?_
  refine lv_bipush (v := 9) E.1 E.2.1 dX8_addCat_16 (by decide) ?_
  refine x_xcallv E h hl hex 0 hf (fun E8 r8 S8 hr => c_X8_needRange l D cy s00 _ hT hG S2 p2 1 9 E8 r8 S8 hr) m_X8_needRange rfl rfl kw953 rfl rfl (Nat.le_of_ble_eq_true rfl) ⟨by decide, by decide⟩ ⟨Nat.le_of_ble_eq_true rfl, Nat.le_of_ble_eq_true rfl⟩ ⟨Nat.le_of_ble_eq_true rfl, Nat.le_of_ble_eq_true rfl⟩ dX8_addCat_18 (fun _ S3 H locs hf h => ?_)
  refine lv_aload_n E.1 E.2.1 dX8_addCat_21 rfl (lv_at hl 0 rfl) ?_
  refine lv_aload_n E.1 E.2.1 dX8_addCat_22 rfl (lv_at hl 0 rfl) ?_
  refine x_getr E h 0 0 1 rfl rfl rfl (by decide) xinX8 kw431 dX8_addCat_23 ?_
  refine lv_iload_n E.1 E.2.1 dX8_addCat_26 rfl (lv_at hl 1 rfl) ?_
  refine x_callop E h hl 1 1 hf (xsub_of rfl) (fun r0 hr => c_X6_refusesCat l D cy s00 _ (xs 1 S3) p0 r0 hr) m_X6_refusesCat rfl rfl kw1019 rfl rfl (Nat.le_of_ble_eq_true rfl) ⟨by decide, by decide⟩ ⟨Nat.le_of_ble_eq_true rfl, Nat.le_of_ble_eq_true rfl⟩ dX8_addCat_27 (fun v4 H locs hf h => ?_)
  refine x_xcallv E h hl hex 0 hf (fun E8 r8 S8 hr => c_X8_refuseIf l D cy s00 _ hT hG S3 v4 E8 r8 S8 hr) m_X8_refuseIf rfl rfl kw958 rfl rfl (Nat.le_of_ble_eq_true rfl) ⟨by decide, by decide⟩ ⟨Nat.le_of_ble_eq_true rfl, Nat.le_of_ble_eq_true rfl⟩ ⟨Nat.le_of_ble_eq_true rfl, Nat.le_of_ble_eq_true rfl⟩ dX8_addCat_30 (fun _ S5 H locs hf h => ?_)
  refine lv_aload_n E.1 E.2.1 dX8_addCat_33 rfl (lv_at hl 0 rfl) ?_
  refine x_getr E h 0 3 27 rfl rfl rfl (by decide) xinX8 kw434 dX8_addCat_34 ?_
  refine lv_aload_n E.1 E.2.1 dX8_addCat_37 rfl (lv_at hl 0 rfl) ?_
  refine x_getr E h 0 0 1 rfl rfl rfl (by decide) xinX8 kw431 dX8_addCat_38 ?_
  refine x_callFv (σ := xσ 27 106 1) (τ := xτ 27 106 1 13) E h hl 27 hf (xsubF_of (by decide +kernel)) (xinv_two (by omega)) (fun r0 hr => c_X2_remember l D cy s00 _ _ r0 hr) m_X2_remember rfl rfl kw715 rfl rfl (Nat.le_of_ble_eq_true rfl) ⟨by decide, by decide⟩ ⟨Nat.le_of_ble_eq_true rfl, Nat.le_of_ble_eq_true rfl⟩ dX8_addCat_41 (fun S6 H locs hf h => ?_)
  refine lv_aload_n E.1 E.2.1 dX8_addCat_44 rfl (lv_at hl 0 rfl) ?_
  refine x_getr E h 0 0 1 rfl rfl rfl (by decide) xinX8 kw431 dX8_addCat_45 ?_
  refine lv_iload_n E.1 E.2.1 dX8_addCat_48 rfl (lv_at hl 1 rfl) ?_
  refine lv_iload_n E.1 E.2.1 dX8_addCat_49 rfl (lv_at hl 2 rfl) ?_
  refine lv_iload_n E.1 E.2.1 dX8_addCat_50 rfl (lv_at hl 3 rfl) ?_
  refine x_calloi E h hl 1 1 hf (xsub_of rfl) (fun r0 Sq0 hr => c_X6_putCat l D cy s00 _ (xs 1 S6) p0 p1 p2 r0 Sq0 hr) m_X6_putCat rfl rfl kw371 rfl rfl (Nat.le_of_ble_eq_true rfl) ⟨by decide, by decide⟩ ⟨Nat.le_of_ble_eq_true rfl, Nat.le_of_ble_eq_true rfl⟩ dX8_addCat_51 (fun v7 S8 H locs hf h => ?_)
  exact x_xiret E h hf ⟨Nat.le_of_ble_eq_true rfl, Nat.le_of_ble_eq_true rfl⟩ dX8_addCat_54
set_option maxHeartbeats 4000000 in
set_option maxRecDepth 100000 in
theorem c_X8_needCat (l : Launch) (D : va_G) (cy : Nat → ClassId) (s00 : State) (ad : Nat → Nat) (hT : l.stackTraces = false ∧ XDW s00) (hG : XG s00) (S : XS) (p0 : Int32) (E9 : Nat) (r9 : Int32) (S9 : XS) (hf : f_X8_needCat S p0 = some (E9, r9, S9)) : XXV l yX8_needCat cX8_needCat 2 none 6 1 D cy s00 shCats ad S [.ref (ad 0), .int p0] E9 S9 := by
  refine XXV.of (by decide) [(0, .ref (ad 0)), (1, .int p0)] rfl (Nat.le_of_ble_eq_true rfl) (fun p e s m args below meth c A ls E h hl hex => ?_)
  unfold f_X8_needCat at hf
  refine lv_aload_n E.1 E.2.1 dX8_needCat_0 rfl (lv_at hl 0 rfl) ?_
  refine x_getr E h 0 0 1 rfl rfl rfl (by decide) xinX8 kw431 dX8_needCat_1 ?_
  refine lv_iload_n E.1 E.2.1 dX8_needCat_4 rfl (lv_at hl 1 rfl) ?_
  refine x_callop E h hl 1 1 hf (xsub_of rfl) (fun r0 hr => c_X6_hasCat l D cy s00 _ (xs 1 S) p0 r0 hr) m_X6_hasCat rfl rfl kw1031 rfl rfl (Nat.le_of_ble_eq_true rfl) ⟨by decide, by decide⟩ ⟨Nat.le_of_ble_eq_true rfl, Nat.le_of_ble_eq_true rfl⟩ dX8_needCat_5 (fun v1 H locs hf h => ?_)
  refine x_brn hf (lv_if_ne (tgt := 22) E.1 E.2.1 dX8_needCat_8 (by decide)) (fun hf => ?_) (fun hf => ?_)
  · exact x_xvret E h hf ⟨Nat.le_of_ble_eq_true rfl, Nat.le_of_ble_eq_true rfl⟩ dX8_needCat_22
  · exact x_thrW hT hG E h hl hex 1 rfl (by decide) (by decide +kernel) 6 rfl kw991 kw140 xat1 hf ⟨Nat.le_of_ble_eq_true rfl, Nat.le_of_ble_eq_true rfl⟩ ⟨Nat.le_of_ble_eq_true rfl, Nat.le_of_ble_eq_true rfl⟩ ⟨Nat.le_of_ble_eq_true rfl, Nat.le_of_ble_eq_true rfl⟩ dX8_needCat_11 dX8_needCat_14 dX8_needCat_15 dX8_needCat_18 dX8_needCat_21
set_option maxHeartbeats 4000000 in
set_option maxRecDepth 100000 in
theorem c_X8_needGutter (l : Launch) (D : va_G) (cy : Nat → ClassId) (s00 : State) (ad : Nat → Nat) (hT : l.stackTraces = false ∧ XDW s00) (hG : XG s00) (S : XS) (p0 : Int32) (E9 : Nat) (r9 : Int32) (S9 : XS) (hf : f_X8_needGutter S p0 = some (E9, r9, S9)) : XXV l yX8_needGutter cX8_needGutter 2 none 6 1 D cy s00 shCats ad S [.ref (ad 0), .int p0] E9 S9 := by
  refine XXV.of (by decide) [(0, .ref (ad 0)), (1, .int p0)] rfl (Nat.le_of_ble_eq_true rfl) (fun p e s m args below meth c A ls E h hl hex => ?_)
  unfold f_X8_needGutter at hf
  refine lv_aload_n E.1 E.2.1 dX8_needGutter_0 rfl (lv_at hl 0 rfl) ?_
  refine x_getr E h 0 0 1 rfl rfl rfl (by decide) xinX8 kw431 dX8_needGutter_1 ?_
  refine lv_iload_n E.1 E.2.1 dX8_needGutter_4 rfl (lv_at hl 1 rfl) ?_
  refine x_callop E h hl 1 1 hf (xsub_of rfl) (fun r0 hr => c_X6_hasGutter l D cy s00 _ (xs 1 S) p0 r0 hr) m_X6_hasGutter rfl rfl kw1037 rfl rfl (Nat.le_of_ble_eq_true rfl) ⟨by decide, by decide⟩ ⟨Nat.le_of_ble_eq_true rfl, Nat.le_of_ble_eq_true rfl⟩ dX8_needGutter_5 (fun v1 H locs hf h => ?_)
  refine x_brn hf (lv_if_ne (tgt := 22) E.1 E.2.1 dX8_needGutter_8 (by decide)) (fun hf => ?_) (fun hf => ?_)
  · exact x_xvret E h hf ⟨Nat.le_of_ble_eq_true rfl, Nat.le_of_ble_eq_true rfl⟩ dX8_needGutter_22
  · exact x_thrW hT hG E h hl hex 1 rfl (by decide) (by decide +kernel) 7 rfl kw991 kw140 xat1 hf ⟨Nat.le_of_ble_eq_true rfl, Nat.le_of_ble_eq_true rfl⟩ ⟨Nat.le_of_ble_eq_true rfl, Nat.le_of_ble_eq_true rfl⟩ ⟨Nat.le_of_ble_eq_true rfl, Nat.le_of_ble_eq_true rfl⟩ dX8_needGutter_11 dX8_needGutter_14 dX8_needGutter_15 dX8_needGutter_18 dX8_needGutter_21
set_option maxHeartbeats 4000000 in
set_option maxRecDepth 100000 in
theorem c_X8_step (l : Launch) (D : va_G) (cy : Nat → ClassId) (s00 : State) (ad : Nat → Nat) (hT : l.stackTraces = false ∧ XDW s00) (hG : XG s00) (S : XS) (p0 p1 : Int32) (E9 : Nat) (r9 : Int32) (S9 : XS) (hf : f_X8_step S p0 p1 = some (E9, r9, S9)) : XXI l yX8_step cX8_step 3 (some .int) 7 3 D cy s00 shCats ad S [.ref (ad 0), .int p0, .int p1] E9 r9 S9 := by
  refine XXI.of (by decide) [(0, .ref (ad 0)), (1, .int p0), (2, .int p1)] rfl (Nat.le_of_ble_eq_true rfl) (fun p e s m args below meth c A ls E h hl hex => ?_)
  unfold f_X8_step at hf
  refine lv_aload_n E.1 E.2.1 dX8_step_0 rfl (lv_at hl 0 rfl) ?_
  refine lv_iload_n E.1 E.2.1 dX8_step_1 rfl (lv_at hl 1 rfl) ?_
  refine x_xcallv E h hl hex 0 hf (fun E8 r8 S8 hr => c_X8_needCat l D cy s00 _ hT hG S p0 E8 r8 S8 hr) m_X8_needCat rfl rfl kw1027 rfl rfl (Nat.le_of_ble_eq_true rfl) ⟨by decide, by decide⟩ ⟨Nat.le_of_ble_eq_true rfl, Nat.le_of_ble_eq_true rfl⟩ ⟨Nat.le_of_ble_eq_true rfl, Nat.le_of_ble_eq_true rfl⟩ dX8_step_2 (fun _ S1 H locs hf h => ?_)
  refine lv_aload_n E.1 E.2.1 dX8_step_5 rfl (lv_at hl 0 rfl) ?_
  refine lv_iload_n E.1 E.2.1 dX8_step_6 rfl (lv_at hl 2 rfl) ?_
  refine x_xcallv E h hl hex 0 hf (fun E8 r8 S8 hr => c_X8_needGutter l D cy s00 _ hT hG S1 p1 E8 r8 S8 hr) m_X8_needGutter rfl rfl kw1033 rfl rfl (Nat.le_of_ble_eq_true rfl) ⟨by decide, by decide⟩ ⟨Nat.le_of_ble_eq_true rfl, Nat.le_of_ble_eq_true rfl⟩ ⟨Nat.le_of_ble_eq_true rfl, Nat.le_of_ble_eq_true rfl⟩ dX8_step_7 (fun _ S2 H locs hf h => ?_)
  refine lv_aload_n E.1 E.2.1 dX8_step_10 rfl (lv_at hl 0 rfl) ?_
  refine lv_aload_n E.1 E.2.1 dX8_step_11 rfl (lv_at hl 0 rfl) ?_
  refine x_getr E h 0 0 1 rfl rfl rfl (by decide) xinX8 kw431 dX8_step_12 ?_
  refine lv_iload_n E.1 E.2.1 dX8_step_15 rfl (lv_at hl 1 rfl) ?_
  refine lv_iload_n E.1 E.2.1 dX8_step_16 rfl (lv_at hl 2 rfl) ?_
  refine x_callop E h hl 1 1 hf (xsub_of rfl) (fun r0 hr => c_X6_stepRefusal l D cy s00 _ (xs 1 S2) p0 p1 r0 hr) m_X6_stepRefusal rfl rfl kw1039 rfl rfl (Nat.le_of_ble_eq_true rfl) ⟨by decide, by decide⟩ ⟨Nat.le_of_ble_eq_true rfl, Nat.le_of_ble_eq_true rfl⟩ dX8_step_17 (fun v3 H locs hf h => ?_)
  refine x_br hf (lv_if_eq (tgt := 27) E.1 E.2.1 dX8_step_20 (by decide)) (fun hf => ?_) (fun hf => ?_)
  · refine lv_iconst (v := 0) E.1 E.2.1 dX8_step_27 (by decide) ?_
    refine x_xcallv E h hl hex 0 hf (fun E8 r8 S8 hr => c_X8_refuseIf l D cy s00 _ hT hG S2 0 E8 r8 S8 hr) m_X8_refuseIf rfl rfl kw958 rfl rfl (Nat.le_of_ble_eq_true rfl) ⟨by decide, by decide⟩ ⟨Nat.le_of_ble_eq_true rfl, Nat.le_of_ble_eq_true rfl⟩ ⟨Nat.le_of_ble_eq_true rfl, Nat.le_of_ble_eq_true rfl⟩ dX8_step_28 (fun _ S4 H locs hf h => ?_)
    refine lv_aload_n E.1 E.2.1 dX8_step_31 rfl (lv_at hl 0 rfl) ?_
    refine x_getr E h 0 3 27 rfl rfl rfl (by decide) xinX8 kw434 dX8_step_32 ?_
    refine lv_aload_n E.1 E.2.1 dX8_step_35 rfl (lv_at hl 0 rfl) ?_
    refine x_getr E h 0 0 1 rfl rfl rfl (by decide) xinX8 kw431 dX8_step_36 ?_
    refine x_callFv (σ := xσ 27 106 1) (τ := xτ 27 106 1 13) E h hl 27 hf (xsubF_of (by decide +kernel)) (xinv_two (by omega)) (fun r0 hr => c_X2_remember l D cy s00 _ _ r0 hr) m_X2_remember rfl rfl kw715 rfl rfl (Nat.le_of_ble_eq_true rfl) ⟨by decide, by decide⟩ ⟨Nat.le_of_ble_eq_true rfl, Nat.le_of_ble_eq_true rfl⟩ dX8_step_39 (fun S5 H locs hf h => ?_)
    refine lv_aload_n E.1 E.2.1 dX8_step_42 rfl (lv_at hl 0 rfl) ?_
    refine x_getr E h 0 0 1 rfl rfl rfl (by decide) xinX8 kw431 dX8_step_43 ?_
    refine lv_iload_n E.1 E.2.1 dX8_step_46 rfl (lv_at hl 1 rfl) ?_
    refine lv_iload_n E.1 E.2.1 dX8_step_47 rfl (lv_at hl 2 rfl) ?_
    refine x_calloi E h hl 1 1 hf (xsub_of rfl) (fun r0 Sq0 hr => c_X6_walk l D cy s00 _ (xs 1 S5) p0 p1 r0 Sq0 hr) m_X6_walk rfl rfl kw1040 rfl rfl (Nat.le_of_ble_eq_true rfl) ⟨by decide, by decide⟩ ⟨Nat.le_of_ble_eq_true rfl, Nat.le_of_ble_eq_true rfl⟩ dX8_step_48 (fun v6 S7 H locs hf h => ?_)
    exact x_xiret E h hf ⟨Nat.le_of_ble_eq_true rfl, Nat.le_of_ble_eq_true rfl⟩ dX8_step_51
  · refine lv_iconst (v := 1) E.1 E.2.1 dX8_step_23 (by decide) ?_
    refine lv_goto (tgt := 28) E.1 E.2.1 dX8_step_24 (by decide) ?_
    refine x_xcallv E h hl hex 0 hf (fun E8 r8 S8 hr => c_X8_refuseIf l D cy s00 _ hT hG S2 1 E8 r8 S8 hr) m_X8_refuseIf rfl rfl kw958 rfl rfl (Nat.le_of_ble_eq_true rfl) ⟨by decide, by decide⟩ ⟨Nat.le_of_ble_eq_true rfl, Nat.le_of_ble_eq_true rfl⟩ ⟨Nat.le_of_ble_eq_true rfl, Nat.le_of_ble_eq_true rfl⟩ dX8_step_28 (fun _ S8 H locs hf h => ?_)
    refine lv_aload_n E.1 E.2.1 dX8_step_31 rfl (lv_at hl 0 rfl) ?_
    refine x_getr E h 0 3 27 rfl rfl rfl (by decide) xinX8 kw434 dX8_step_32 ?_
    refine lv_aload_n E.1 E.2.1 dX8_step_35 rfl (lv_at hl 0 rfl) ?_
    refine x_getr E h 0 0 1 rfl rfl rfl (by decide) xinX8 kw431 dX8_step_36 ?_
    refine x_callFv (σ := xσ 27 106 1) (τ := xτ 27 106 1 13) E h hl 27 hf (xsubF_of (by decide +kernel)) (xinv_two (by omega)) (fun r0 hr => c_X2_remember l D cy s00 _ _ r0 hr) m_X2_remember rfl rfl kw715 rfl rfl (Nat.le_of_ble_eq_true rfl) ⟨by decide, by decide⟩ ⟨Nat.le_of_ble_eq_true rfl, Nat.le_of_ble_eq_true rfl⟩ dX8_step_39 (fun S9 H locs hf h => ?_)
    refine lv_aload_n E.1 E.2.1 dX8_step_42 rfl (lv_at hl 0 rfl) ?_
    refine x_getr E h 0 0 1 rfl rfl rfl (by decide) xinX8 kw431 dX8_step_43 ?_
    refine lv_iload_n E.1 E.2.1 dX8_step_46 rfl (lv_at hl 1 rfl) ?_
    refine lv_iload_n E.1 E.2.1 dX8_step_47 rfl (lv_at hl 2 rfl) ?_
    refine x_calloi E h hl 1 1 hf (xsub_of rfl) (fun r0 Sq0 hr => c_X6_walk l D cy s00 _ (xs 1 S9) p0 p1 r0 Sq0 hr) m_X6_walk rfl rfl kw1040 rfl rfl (Nat.le_of_ble_eq_true rfl) ⟨by decide, by decide⟩ ⟨Nat.le_of_ble_eq_true rfl, Nat.le_of_ble_eq_true rfl⟩ dX8_step_48 (fun v10 S11 H locs hf h => ?_)
    exact x_xiret E h hf ⟨Nat.le_of_ble_eq_true rfl, Nat.le_of_ble_eq_true rfl⟩ dX8_step_51
set_option maxHeartbeats 4000000 in
set_option maxRecDepth 100000 in
theorem c_X8_claim (l : Launch) (D : va_G) (cy : Nat → ClassId) (s00 : State) (ad : Nat → Nat) (hT : l.stackTraces = false ∧ XDW s00) (hG : XG s00) (S : XS) (p0 : Int32) (E9 : Nat) (r9 : Int32) (S9 : XS) (hf : f_X8_claim S p0 = some (E9, r9, S9)) : XXI l yX8_claim cX8_claim 2 (some .int) 7 2 D cy s00 shCats ad S [.ref (ad 0), .int p0] E9 r9 S9 := by
  refine XXI.of (by decide) [(0, .ref (ad 0)), (1, .int p0)] rfl (Nat.le_of_ble_eq_true rfl) (fun p e s m args below meth c A ls E h hl hex => ?_)
  unfold f_X8_claim at hf
  refine lv_aload_n E.1 E.2.1 dX8_claim_0 rfl (lv_at hl 0 rfl) ?_
  refine lv_iload_n E.1 E.2.1 dX8_claim_1 rfl (lv_at hl 1 rfl) ?_
  refine x_xcallv E h hl hex 0 hf (fun E8 r8 S8 hr => c_X8_needCat l D cy s00 _ hT hG S p0 E8 r8 S8 hr) m_X8_needCat rfl rfl kw1027 rfl rfl (Nat.le_of_ble_eq_true rfl) ⟨by decide, by decide⟩ ⟨Nat.le_of_ble_eq_true rfl, Nat.le_of_ble_eq_true rfl⟩ ⟨Nat.le_of_ble_eq_true rfl, Nat.le_of_ble_eq_true rfl⟩ dX8_claim_2 (fun _ S1 H locs hf h => ?_)
  refine lv_aload_n E.1 E.2.1 dX8_claim_5 rfl (lv_at hl 0 rfl) ?_
  refine lv_aload_n E.1 E.2.1 dX8_claim_6 rfl (lv_at hl 0 rfl) ?_
  refine x_getr E h 0 0 1 rfl rfl rfl (by decide) xinX8 kw431 dX8_claim_7 ?_
  refine lv_iload_n E.1 E.2.1 dX8_claim_10 rfl (lv_at hl 1 rfl) ?_
  refine x_callop E h hl 1 1 hf (xsub_of rfl) (fun r0 hr => c_X6_claimRefusal l D cy s00 _ (xs 1 S1) p0 r0 hr) m_X6_claimRefusal rfl rfl kw1048 rfl rfl (Nat.le_of_ble_eq_true rfl) ⟨by decide, by decide⟩ ⟨Nat.le_of_ble_eq_true rfl, Nat.le_of_ble_eq_true rfl⟩ dX8_claim_11 (fun v2 H locs hf h => ?_)
  refine x_br hf (lv_if_eq (tgt := 21) E.1 E.2.1 dX8_claim_14 (by decide)) (fun hf => ?_) (fun hf => ?_)
  · refine lv_iconst (v := 0) E.1 E.2.1 dX8_claim_21 (by decide) ?_
    refine x_xcallv E h hl hex 0 hf (fun E8 r8 S8 hr => c_X8_refuseIf l D cy s00 _ hT hG S1 0 E8 r8 S8 hr) m_X8_refuseIf rfl rfl kw958 rfl rfl (Nat.le_of_ble_eq_true rfl) ⟨by decide, by decide⟩ ⟨Nat.le_of_ble_eq_true rfl, Nat.le_of_ble_eq_true rfl⟩ ⟨Nat.le_of_ble_eq_true rfl, Nat.le_of_ble_eq_true rfl⟩ dX8_claim_22 (fun _ S3 H locs hf h => ?_)
    refine lv_aload_n E.1 E.2.1 dX8_claim_25 rfl (lv_at hl 0 rfl) ?_
    refine x_getr E h 0 3 27 rfl rfl rfl (by decide) xinX8 kw434 dX8_claim_26 ?_
    refine lv_aload_n E.1 E.2.1 dX8_claim_29 rfl (lv_at hl 0 rfl) ?_
    refine x_getr E h 0 0 1 rfl rfl rfl (by decide) xinX8 kw431 dX8_claim_30 ?_
    refine x_callFv (σ := xσ 27 106 1) (τ := xτ 27 106 1 13) E h hl 27 hf (xsubF_of (by decide +kernel)) (xinv_two (by omega)) (fun r0 hr => c_X2_remember l D cy s00 _ _ r0 hr) m_X2_remember rfl rfl kw715 rfl rfl (Nat.le_of_ble_eq_true rfl) ⟨by decide, by decide⟩ ⟨Nat.le_of_ble_eq_true rfl, Nat.le_of_ble_eq_true rfl⟩ dX8_claim_33 (fun S4 H locs hf h => ?_)
    refine lv_aload_n E.1 E.2.1 dX8_claim_36 rfl (lv_at hl 0 rfl) ?_
    refine x_getr E h 0 0 1 rfl rfl rfl (by decide) xinX8 kw431 dX8_claim_37 ?_
    refine lv_iload_n E.1 E.2.1 dX8_claim_40 rfl (lv_at hl 1 rfl) ?_
    refine x_calloi E h hl 1 1 hf (xsub_of rfl) (fun r0 Sq0 hr => c_X6_takeSeat l D cy s00 _ (xs 1 S4) p0 r0 Sq0 hr) m_X6_takeSeat rfl rfl kw375 rfl rfl (Nat.le_of_ble_eq_true rfl) ⟨by decide, by decide⟩ ⟨Nat.le_of_ble_eq_true rfl, Nat.le_of_ble_eq_true rfl⟩ dX8_claim_41 (fun v5 S6 H locs hf h => ?_)
    exact x_xiret E h hf ⟨Nat.le_of_ble_eq_true rfl, Nat.le_of_ble_eq_true rfl⟩ dX8_claim_44
  · refine lv_iconst (v := 1) E.1 E.2.1 dX8_claim_17 (by decide) ?_
    refine lv_goto (tgt := 22) E.1 E.2.1 dX8_claim_18 (by decide) ?_
    refine x_xcallv E h hl hex 0 hf (fun E8 r8 S8 hr => c_X8_refuseIf l D cy s00 _ hT hG S1 1 E8 r8 S8 hr) m_X8_refuseIf rfl rfl kw958 rfl rfl (Nat.le_of_ble_eq_true rfl) ⟨by decide, by decide⟩ ⟨Nat.le_of_ble_eq_true rfl, Nat.le_of_ble_eq_true rfl⟩ ⟨Nat.le_of_ble_eq_true rfl, Nat.le_of_ble_eq_true rfl⟩ dX8_claim_22 (fun _ S7 H locs hf h => ?_)
    refine lv_aload_n E.1 E.2.1 dX8_claim_25 rfl (lv_at hl 0 rfl) ?_
    refine x_getr E h 0 3 27 rfl rfl rfl (by decide) xinX8 kw434 dX8_claim_26 ?_
    refine lv_aload_n E.1 E.2.1 dX8_claim_29 rfl (lv_at hl 0 rfl) ?_
    refine x_getr E h 0 0 1 rfl rfl rfl (by decide) xinX8 kw431 dX8_claim_30 ?_
    refine x_callFv (σ := xσ 27 106 1) (τ := xτ 27 106 1 13) E h hl 27 hf (xsubF_of (by decide +kernel)) (xinv_two (by omega)) (fun r0 hr => c_X2_remember l D cy s00 _ _ r0 hr) m_X2_remember rfl rfl kw715 rfl rfl (Nat.le_of_ble_eq_true rfl) ⟨by decide, by decide⟩ ⟨Nat.le_of_ble_eq_true rfl, Nat.le_of_ble_eq_true rfl⟩ dX8_claim_33 (fun S8 H locs hf h => ?_)
    refine lv_aload_n E.1 E.2.1 dX8_claim_36 rfl (lv_at hl 0 rfl) ?_
    refine x_getr E h 0 0 1 rfl rfl rfl (by decide) xinX8 kw431 dX8_claim_37 ?_
    refine lv_iload_n E.1 E.2.1 dX8_claim_40 rfl (lv_at hl 1 rfl) ?_
    refine x_calloi E h hl 1 1 hf (xsub_of rfl) (fun r0 Sq0 hr => c_X6_takeSeat l D cy s00 _ (xs 1 S8) p0 r0 Sq0 hr) m_X6_takeSeat rfl rfl kw375 rfl rfl (Nat.le_of_ble_eq_true rfl) ⟨by decide, by decide⟩ ⟨Nat.le_of_ble_eq_true rfl, Nat.le_of_ble_eq_true rfl⟩ dX8_claim_41 (fun v9 S10 H locs hf h => ?_)
    exact x_xiret E h hf ⟨Nat.le_of_ble_eq_true rfl, Nat.le_of_ble_eq_true rfl⟩ dX8_claim_44
set_option maxHeartbeats 4000000 in
set_option maxRecDepth 100000 in
theorem c_X8_abandon (l : Launch) (D : va_G) (cy : Nat → ClassId) (s00 : State) (ad : Nat → Nat) (hT : l.stackTraces = false ∧ XDW s00) (hG : XG s00) (S : XS) (p0 : Int32) (E9 : Nat) (r9 : Int32) (S9 : XS) (hf : f_X8_abandon S p0 = some (E9, r9, S9)) : XXI l yX8_abandon cX8_abandon 2 (some .int) 7 2 D cy s00 shCats ad S [.ref (ad 0), .int p0] E9 r9 S9 := by
  refine XXI.of (by decide) [(0, .ref (ad 0)), (1, .int p0)] rfl (Nat.le_of_ble_eq_true rfl) (fun p e s m args below meth c A ls E h hl hex => ?_)
  unfold f_X8_abandon at hf
  refine lv_aload_n E.1 E.2.1 dX8_abandon_0 rfl (lv_at hl 0 rfl) ?_
  refine lv_iload_n E.1 E.2.1 dX8_abandon_1 rfl (lv_at hl 1 rfl) ?_
  refine x_xcallv E h hl hex 0 hf (fun E8 r8 S8 hr => c_X8_needChimney l D cy s00 _ hT hG S p0 E8 r8 S8 hr) m_X8_needChimney rfl rfl kw986 rfl rfl (Nat.le_of_ble_eq_true rfl) ⟨by decide, by decide⟩ ⟨Nat.le_of_ble_eq_true rfl, Nat.le_of_ble_eq_true rfl⟩ ⟨Nat.le_of_ble_eq_true rfl, Nat.le_of_ble_eq_true rfl⟩ dX8_abandon_2 (fun _ S1 H locs hf h => ?_)
  refine lv_aload_n E.1 E.2.1 dX8_abandon_5 rfl (lv_at hl 0 rfl) ?_
  refine lv_aload_n E.1 E.2.1 dX8_abandon_6 rfl (lv_at hl 0 rfl) ?_
  refine x_getr E h 0 0 1 rfl rfl rfl (by decide) xinX8 kw431 dX8_abandon_7 ?_
  refine x_getr E h 1 2 3 rfl rfl rfl (by decide) xinX6 kw191 dX8_abandon_10 ?_
  refine lv_iload_n E.1 E.2.1 dX8_abandon_13 rfl (lv_at hl 1 rfl) ?_
  refine x_iald E h 3 hf rfl dX8_abandon_14 (fun v2 hf => ?_)
  refine lv_iconst (v := (-1)) E.1 E.2.1 dX8_abandon_15 (by decide) ?_
  refine x_brn hf (lv_icmp_ne (tgt := 23) E.1 E.2.1 dX8_abandon_16 (by decide)) (fun hf => ?_) (fun hf => ?_)
  · refine lv_iconst (v := 0) E.1 E.2.1 dX8_abandon_23 (by decide) ?_
    refine x_xcallv E h hl hex 0 hf (fun E8 r8 S8 hr => c_X8_refuseIf l D cy s00 _ hT hG S1 0 E8 r8 S8 hr) m_X8_refuseIf rfl rfl kw958 rfl rfl (Nat.le_of_ble_eq_true rfl) ⟨by decide, by decide⟩ ⟨Nat.le_of_ble_eq_true rfl, Nat.le_of_ble_eq_true rfl⟩ ⟨Nat.le_of_ble_eq_true rfl, Nat.le_of_ble_eq_true rfl⟩ dX8_abandon_24 (fun _ S3 H locs hf h => ?_)
    refine lv_aload_n E.1 E.2.1 dX8_abandon_27 rfl (lv_at hl 0 rfl) ?_
    refine x_getr E h 0 3 27 rfl rfl rfl (by decide) xinX8 kw434 dX8_abandon_28 ?_
    refine lv_aload_n E.1 E.2.1 dX8_abandon_31 rfl (lv_at hl 0 rfl) ?_
    refine x_getr E h 0 0 1 rfl rfl rfl (by decide) xinX8 kw431 dX8_abandon_32 ?_
    refine x_callFv (σ := xσ 27 106 1) (τ := xτ 27 106 1 13) E h hl 27 hf (xsubF_of (by decide +kernel)) (xinv_two (by omega)) (fun r0 hr => c_X2_remember l D cy s00 _ _ r0 hr) m_X2_remember rfl rfl kw715 rfl rfl (Nat.le_of_ble_eq_true rfl) ⟨by decide, by decide⟩ ⟨Nat.le_of_ble_eq_true rfl, Nat.le_of_ble_eq_true rfl⟩ dX8_abandon_35 (fun S4 H locs hf h => ?_)
    refine lv_aload_n E.1 E.2.1 dX8_abandon_38 rfl (lv_at hl 0 rfl) ?_
    refine x_getr E h 0 0 1 rfl rfl rfl (by decide) xinX8 kw431 dX8_abandon_39 ?_
    refine lv_iload_n E.1 E.2.1 dX8_abandon_42 rfl (lv_at hl 1 rfl) ?_
    refine x_calloi E h hl 1 1 hf (xsub_of rfl) (fun r0 Sq0 hr => c_X6_release l D cy s00 _ (xs 1 S4) p0 r0 Sq0 hr) m_X6_release rfl rfl kw1056 rfl rfl (Nat.le_of_ble_eq_true rfl) ⟨by decide, by decide⟩ ⟨Nat.le_of_ble_eq_true rfl, Nat.le_of_ble_eq_true rfl⟩ dX8_abandon_43 (fun v5 S6 H locs hf h => ?_)
    exact x_xiret E h hf ⟨Nat.le_of_ble_eq_true rfl, Nat.le_of_ble_eq_true rfl⟩ dX8_abandon_46
  · refine lv_iconst (v := 1) E.1 E.2.1 dX8_abandon_19 (by decide) ?_
    refine lv_goto (tgt := 24) E.1 E.2.1 dX8_abandon_20 (by decide) ?_
    refine x_xcallv E h hl hex 0 hf (fun E8 r8 S8 hr => c_X8_refuseIf l D cy s00 _ hT hG S1 1 E8 r8 S8 hr) m_X8_refuseIf rfl rfl kw958 rfl rfl (Nat.le_of_ble_eq_true rfl) ⟨by decide, by decide⟩ ⟨Nat.le_of_ble_eq_true rfl, Nat.le_of_ble_eq_true rfl⟩ ⟨Nat.le_of_ble_eq_true rfl, Nat.le_of_ble_eq_true rfl⟩ dX8_abandon_24 (fun _ S7 H locs hf h => ?_)
    refine lv_aload_n E.1 E.2.1 dX8_abandon_27 rfl (lv_at hl 0 rfl) ?_
    refine x_getr E h 0 3 27 rfl rfl rfl (by decide) xinX8 kw434 dX8_abandon_28 ?_
    refine lv_aload_n E.1 E.2.1 dX8_abandon_31 rfl (lv_at hl 0 rfl) ?_
    refine x_getr E h 0 0 1 rfl rfl rfl (by decide) xinX8 kw431 dX8_abandon_32 ?_
    refine x_callFv (σ := xσ 27 106 1) (τ := xτ 27 106 1 13) E h hl 27 hf (xsubF_of (by decide +kernel)) (xinv_two (by omega)) (fun r0 hr => c_X2_remember l D cy s00 _ _ r0 hr) m_X2_remember rfl rfl kw715 rfl rfl (Nat.le_of_ble_eq_true rfl) ⟨by decide, by decide⟩ ⟨Nat.le_of_ble_eq_true rfl, Nat.le_of_ble_eq_true rfl⟩ dX8_abandon_35 (fun S8 H locs hf h => ?_)
    refine lv_aload_n E.1 E.2.1 dX8_abandon_38 rfl (lv_at hl 0 rfl) ?_
    refine x_getr E h 0 0 1 rfl rfl rfl (by decide) xinX8 kw431 dX8_abandon_39 ?_
    refine lv_iload_n E.1 E.2.1 dX8_abandon_42 rfl (lv_at hl 1 rfl) ?_
    refine x_calloi E h hl 1 1 hf (xsub_of rfl) (fun r0 Sq0 hr => c_X6_release l D cy s00 _ (xs 1 S8) p0 r0 Sq0 hr) m_X6_release rfl rfl kw1056 rfl rfl (Nat.le_of_ble_eq_true rfl) ⟨by decide, by decide⟩ ⟨Nat.le_of_ble_eq_true rfl, Nat.le_of_ble_eq_true rfl⟩ dX8_abandon_43 (fun v9 S10 H locs hf h => ?_)
    exact x_xiret E h hf ⟨Nat.le_of_ble_eq_true rfl, Nat.le_of_ble_eq_true rfl⟩ dX8_abandon_46
set_option maxHeartbeats 4000000 in
set_option maxRecDepth 100000 in
theorem c_X8_chase (l : Launch) (D : va_G) (cy : Nat → ClassId) (s00 : State) (ad : Nat → Nat) (hT : l.stackTraces = false ∧ XDW s00) (hG : XG s00) (S : XS) (p0 p1 : Int32) (E9 : Nat) (r9 : Int32) (S9 : XS) (hf : f_X8_chase S p0 p1 = some (E9, r9, S9)) : XXI l yX8_chase cX8_chase 3 (some .boolean) 7 4 D cy s00 shCats ad S [.ref (ad 0), .int p0, .int p1] E9 r9 S9 := by
  refine XXI.of (by decide) [(0, .ref (ad 0)), (1, .int p0), (2, .int p1)] rfl (Nat.le_of_ble_eq_true rfl) (fun p e s m args below meth c A ls E h hl hex => ?_)
  unfold f_X8_chase at hf
  refine lv_aload_n E.1 E.2.1 dX8_chase_0 rfl (lv_at hl 0 rfl) ?_
  refine lv_iload_n E.1 E.2.1 dX8_chase_1 rfl (lv_at hl 1 rfl) ?_
  refine x_xcallv E h hl hex 0 hf (fun E8 r8 S8 hr => c_X8_needCat l D cy s00 _ hT hG S p0 E8 r8 S8 hr) m_X8_needCat rfl rfl kw1027 rfl rfl (Nat.le_of_ble_eq_true rfl) ⟨by decide, by decide⟩ ⟨Nat.le_of_ble_eq_true rfl, Nat.le_of_ble_eq_true rfl⟩ ⟨Nat.le_of_ble_eq_true rfl, Nat.le_of_ble_eq_true rfl⟩ dX8_chase_2 (fun _ S1 H locs hf h => ?_)
  refine lv_aload_n E.1 E.2.1 dX8_chase_5 rfl (lv_at hl 0 rfl) ?_
  refine lv_iload_n E.1 E.2.1 dX8_chase_6 rfl (lv_at hl 2 rfl) ?_
  refine x_xcallv E h hl hex 0 hf (fun E8 r8 S8 hr => c_X8_needCat l D cy s00 _ hT hG S1 p1 E8 r8 S8 hr) m_X8_needCat rfl rfl kw1027 rfl rfl (Nat.le_of_ble_eq_true rfl) ⟨by decide, by decide⟩ ⟨Nat.le_of_ble_eq_true rfl, Nat.le_of_ble_eq_true rfl⟩ ⟨Nat.le_of_ble_eq_true rfl, Nat.le_of_ble_eq_true rfl⟩ dX8_chase_7 (fun _ S2 H locs hf h => ?_)
  refine lv_aload_n E.1 E.2.1 dX8_chase_10 rfl (lv_at hl 0 rfl) ?_
  refine lv_iload_n E.1 E.2.1 dX8_chase_11 rfl (lv_at hl 1 rfl) ?_
  refine lv_iload_n E.1 E.2.1 dX8_chase_12 rfl (lv_at hl 2 rfl) ?_
  refine x_xcallv E h hl hex 0 hf (fun E8 r8 S8 hr => c_X8_needTwo l D cy s00 _ hT hG S2 p0 p1 E8 r8 S8 hr) m_X8_needTwo rfl rfl kw1007 rfl rfl (Nat.le_of_ble_eq_true rfl) ⟨by decide, by decide⟩ ⟨Nat.le_of_ble_eq_true rfl, Nat.le_of_ble_eq_true rfl⟩ ⟨Nat.le_of_ble_eq_true rfl, Nat.le_of_ble_eq_true rfl⟩ dX8_chase_13 (fun _ S3 H locs hf h => ?_)
  refine lv_aload_n E.1 E.2.1 dX8_chase_16 rfl (lv_at hl 0 rfl) ?_
  refine lv_aload_n E.1 E.2.1 dX8_chase_17 rfl (lv_at hl 0 rfl) ?_
  refine x_getr E h 0 0 1 rfl rfl rfl (by decide) xinX8 kw431 dX8_chase_18 ?_
  refine lv_iload_n E.1 E.2.1 dX8_chase_21 rfl (lv_at hl 1 rfl) ?_
  refine lv_iload_n E.1 E.2.1 dX8_chase_22 rfl (lv_at hl 2 rfl) ?_
  refine x_callop E h hl 1 1 hf (xsub_of rfl) (fun r0 hr => c_X6_chaseRefusal l D cy s00 _ (xs 1 S3) p0 p1 r0 hr) m_X6_chaseRefusal rfl rfl kw1064 rfl rfl (Nat.le_of_ble_eq_true rfl) ⟨by decide, by decide⟩ ⟨Nat.le_of_ble_eq_true rfl, Nat.le_of_ble_eq_true rfl⟩ dX8_chase_23 (fun v4 H locs hf h => ?_)
  refine x_br hf (lv_if_eq (tgt := 33) E.1 E.2.1 dX8_chase_26 (by decide)) (fun hf => ?_) (fun hf => ?_)
  · refine lv_iconst (v := 0) E.1 E.2.1 dX8_chase_33 (by decide) ?_
    refine x_xcallv E h hl hex 0 hf (fun E8 r8 S8 hr => c_X8_refuseIf l D cy s00 _ hT hG S3 0 E8 r8 S8 hr) m_X8_refuseIf rfl rfl kw958 rfl rfl (Nat.le_of_ble_eq_true rfl) ⟨by decide, by decide⟩ ⟨Nat.le_of_ble_eq_true rfl, Nat.le_of_ble_eq_true rfl⟩ ⟨Nat.le_of_ble_eq_true rfl, Nat.le_of_ble_eq_true rfl⟩ dX8_chase_34 (fun _ S5 H locs hf h => ?_)
    refine lv_aload_n E.1 E.2.1 dX8_chase_37 rfl (lv_at hl 0 rfl) ?_
    refine x_getr E h 0 3 27 rfl rfl rfl (by decide) xinX8 kw434 dX8_chase_38 ?_
    refine lv_aload_n E.1 E.2.1 dX8_chase_41 rfl (lv_at hl 0 rfl) ?_
    refine x_getr E h 0 0 1 rfl rfl rfl (by decide) xinX8 kw431 dX8_chase_42 ?_
    refine x_callFv (σ := xσ 27 106 1) (τ := xτ 27 106 1 13) E h hl 27 hf (xsubF_of (by decide +kernel)) (xinv_two (by omega)) (fun r0 hr => c_X2_remember l D cy s00 _ _ r0 hr) m_X2_remember rfl rfl kw715 rfl rfl (Nat.le_of_ble_eq_true rfl) ⟨by decide, by decide⟩ ⟨Nat.le_of_ble_eq_true rfl, Nat.le_of_ble_eq_true rfl⟩ dX8_chase_45 (fun S6 H locs hf h => ?_)
    refine lv_aload_n E.1 E.2.1 dX8_chase_48 rfl (lv_at hl 0 rfl) ?_
    refine x_getr E h 0 0 1 rfl rfl rfl (by decide) xinX8 kw431 dX8_chase_49 ?_
    refine lv_iload_n E.1 E.2.1 dX8_chase_52 rfl (lv_at hl 1 rfl) ?_
    refine lv_iload_n E.1 E.2.1 dX8_chase_53 rfl (lv_at hl 2 rfl) ?_
    refine x_calloi E h hl 1 1 hf (xsub_of rfl) (fun r0 Sq0 hr => c_X6_driveAway l D cy s00 _ (xs 1 S6) p0 p1 r0 Sq0 hr) m_X6_driveAway rfl rfl kw1065 rfl rfl (Nat.le_of_ble_eq_true rfl) ⟨by decide, by decide⟩ ⟨Nat.le_of_ble_eq_true rfl, Nat.le_of_ble_eq_true rfl⟩ dX8_chase_54 (fun v7 S8 H locs hf h => ?_)
    exact x_xzret E h hf ⟨Nat.le_of_ble_eq_true rfl, Nat.le_of_ble_eq_true rfl⟩ dX8_chase_57
  · refine lv_iconst (v := 1) E.1 E.2.1 dX8_chase_29 (by decide) ?_
    refine lv_goto (tgt := 34) E.1 E.2.1 dX8_chase_30 (by decide) ?_
    refine x_xcallv E h hl hex 0 hf (fun E8 r8 S8 hr => c_X8_refuseIf l D cy s00 _ hT hG S3 1 E8 r8 S8 hr) m_X8_refuseIf rfl rfl kw958 rfl rfl (Nat.le_of_ble_eq_true rfl) ⟨by decide, by decide⟩ ⟨Nat.le_of_ble_eq_true rfl, Nat.le_of_ble_eq_true rfl⟩ ⟨Nat.le_of_ble_eq_true rfl, Nat.le_of_ble_eq_true rfl⟩ dX8_chase_34 (fun _ S9 H locs hf h => ?_)
    refine lv_aload_n E.1 E.2.1 dX8_chase_37 rfl (lv_at hl 0 rfl) ?_
    refine x_getr E h 0 3 27 rfl rfl rfl (by decide) xinX8 kw434 dX8_chase_38 ?_
    refine lv_aload_n E.1 E.2.1 dX8_chase_41 rfl (lv_at hl 0 rfl) ?_
    refine x_getr E h 0 0 1 rfl rfl rfl (by decide) xinX8 kw431 dX8_chase_42 ?_
    refine x_callFv (σ := xσ 27 106 1) (τ := xτ 27 106 1 13) E h hl 27 hf (xsubF_of (by decide +kernel)) (xinv_two (by omega)) (fun r0 hr => c_X2_remember l D cy s00 _ _ r0 hr) m_X2_remember rfl rfl kw715 rfl rfl (Nat.le_of_ble_eq_true rfl) ⟨by decide, by decide⟩ ⟨Nat.le_of_ble_eq_true rfl, Nat.le_of_ble_eq_true rfl⟩ dX8_chase_45 (fun S10 H locs hf h => ?_)
    refine lv_aload_n E.1 E.2.1 dX8_chase_48 rfl (lv_at hl 0 rfl) ?_
    refine x_getr E h 0 0 1 rfl rfl rfl (by decide) xinX8 kw431 dX8_chase_49 ?_
    refine lv_iload_n E.1 E.2.1 dX8_chase_52 rfl (lv_at hl 1 rfl) ?_
    refine lv_iload_n E.1 E.2.1 dX8_chase_53 rfl (lv_at hl 2 rfl) ?_
    refine x_calloi E h hl 1 1 hf (xsub_of rfl) (fun r0 Sq0 hr => c_X6_driveAway l D cy s00 _ (xs 1 S10) p0 p1 r0 Sq0 hr) m_X6_driveAway rfl rfl kw1065 rfl rfl (Nat.le_of_ble_eq_true rfl) ⟨by decide, by decide⟩ ⟨Nat.le_of_ble_eq_true rfl, Nat.le_of_ble_eq_true rfl⟩ dX8_chase_54 (fun v11 S12 H locs hf h => ?_)
    exact x_xzret E h hf ⟨Nat.le_of_ble_eq_true rfl, Nat.le_of_ble_eq_true rfl⟩ dX8_chase_57
set_option maxHeartbeats 4000000 in
set_option maxRecDepth 100000 in
theorem c_X8_buyTruce (l : Launch) (D : va_G) (cy : Nat → ClassId) (s00 : State) (ad : Nat → Nat) (hT : l.stackTraces = false ∧ XDW s00) (hG : XG s00) (S : XS) (p0 p1 p2 p3 : Int32) (E9 : Nat) (r9 : Int32) (S9 : XS) (hf : f_X8_buyTruce S p0 p1 p2 p3 = some (E9, r9, S9)) : XXI l yX8_buyTruce cX8_buyTruce 5 (some .int) 7 6 D cy s00 shCats ad S [.ref (ad 0), .int p0, .int p1, .int p2, .int p3] E9 r9 S9 := by
  refine XXI.of (by decide) [(0, .ref (ad 0)), (1, .int p0), (2, .int p1), (3, .int p2), (4, .int p3)] rfl (Nat.le_of_ble_eq_true rfl) (fun p e s m args below meth c A ls E h hl hex => ?_)
  unfold f_X8_buyTruce at hf
  refine lv_aload_n E.1 E.2.1 dX8_buyTruce_0 rfl (lv_at hl 0 rfl) ?_
  refine lv_iload_n E.1 E.2.1 dX8_buyTruce_1 rfl (lv_at hl 1 rfl) ?_
  refine x_xcallv E h hl hex 0 hf (fun E8 r8 S8 hr => c_X8_needCat l D cy s00 _ hT hG S p0 E8 r8 S8 hr) m_X8_needCat rfl rfl kw1027 rfl rfl (Nat.le_of_ble_eq_true rfl) ⟨by decide, by decide⟩ ⟨Nat.le_of_ble_eq_true rfl, Nat.le_of_ble_eq_true rfl⟩ ⟨Nat.le_of_ble_eq_true rfl, Nat.le_of_ble_eq_true rfl⟩ dX8_buyTruce_2 (fun _ S1 H locs hf h => ?_)
  refine lv_aload_n E.1 E.2.1 dX8_buyTruce_5 rfl (lv_at hl 0 rfl) ?_
  refine lv_iload_n E.1 E.2.1 dX8_buyTruce_6 rfl (lv_at hl 2 rfl) ?_
  refine x_xcallv E h hl hex 0 hf (fun E8 r8 S8 hr => c_X8_needCat l D cy s00 _ hT hG S1 p1 E8 r8 S8 hr) m_X8_needCat rfl rfl kw1027 rfl rfl (Nat.le_of_ble_eq_true rfl) ⟨by decide, by decide⟩ ⟨Nat.le_of_ble_eq_true rfl, Nat.le_of_ble_eq_true rfl⟩ ⟨Nat.le_of_ble_eq_true rfl, Nat.le_of_ble_eq_true rfl⟩ dX8_buyTruce_7 (fun _ S2 H locs hf h => ?_)
  refine lv_aload_n E.1 E.2.1 dX8_buyTruce_10 rfl (lv_at hl 0 rfl) ?_
  refine lv_iload_n E.1 E.2.1 dX8_buyTruce_11 rfl (lv_at hl 1 rfl) ?_
  refine lv_iload_n E.1 E.2.1 dX8_buyTruce_12 rfl (lv_at hl 2 rfl) ?_
  refine x_xcallv E h hl hex 0 hf (fun E8 r8 S8 hr => c_X8_needTwo l D cy s00 _ hT hG S2 p0 p1 E8 r8 S8 hr) m_X8_needTwo rfl rfl kw1007 rfl rfl (Nat.le_of_ble_eq_true rfl) ⟨by decide, by decide⟩ ⟨Nat.le_of_ble_eq_true rfl, Nat.le_of_ble_eq_true rfl⟩ ⟨Nat.le_of_ble_eq_true rfl, Nat.le_of_ble_eq_true rfl⟩ dX8_buyTruce_13 (fun _ S3 H locs hf h => ?_)
  refine lv_aload_n E.1 E.2.1 dX8_buyTruce_16 rfl (lv_at hl 0 rfl) ?_
  refine lv_iload_n E.1 E.2.1 dX8_buyTruce_17 rfl (lv_at hl 3 rfl) ?_
  refine lv_iconst (v := 1) E.1 E.2.1 dX8_buyTruce_18 (by decide) ?_
  refine lv_bipush (v := 9) E.1 E.2.1 dX8_buyTruce_19 (by decide) ?_
  refine x_xcallv E h hl hex 0 hf (fun E8 r8 S8 hr => c_X8_needRange l D cy s00 _ hT hG S3 p2 1 9 E8 r8 S8 hr) m_X8_needRange rfl rfl kw953 rfl rfl (Nat.le_of_ble_eq_true rfl) ⟨by decide, by decide⟩ ⟨Nat.le_of_ble_eq_true rfl, Nat.le_of_ble_eq_true rfl⟩ ⟨Nat.le_of_ble_eq_true rfl, Nat.le_of_ble_eq_true rfl⟩ dX8_buyTruce_21 (fun _ S4 H locs hf h => ?_)
  refine lv_aload_n E.1 E.2.1 dX8_buyTruce_24 rfl (lv_at hl 0 rfl) ?_
  refine lv_iload E.1 E.2.1 dX8_buyTruce_25 (lv_at hl 4 rfl) ?_
  refine lv_iconst (v := 1) E.1 E.2.1 dX8_buyTruce_27 (by decide) ?_
  refine lv_bipush (v := 20) E.1 E.2.1 dX8_buyTruce_28 (by decide) ?_
  refine x_xcallv E h hl hex 0 hf (fun E8 r8 S8 hr => c_X8_needRange l D cy s00 _ hT hG S4 p3 1 20 E8 r8 S8 hr) m_X8_needRange rfl rfl kw953 rfl rfl (Nat.le_of_ble_eq_true rfl) ⟨by decide, by decide⟩ ⟨Nat.le_of_ble_eq_true rfl, Nat.le_of_ble_eq_true rfl⟩ ⟨Nat.le_of_ble_eq_true rfl, Nat.le_of_ble_eq_true rfl⟩ dX8_buyTruce_30 (fun _ S5 H locs hf h => ?_)
  refine lv_aload_n E.1 E.2.1 dX8_buyTruce_33 rfl (lv_at hl 0 rfl) ?_
  refine lv_aload_n E.1 E.2.1 dX8_buyTruce_34 rfl (lv_at hl 0 rfl) ?_
  refine x_getr E h 0 0 1 rfl rfl rfl (by decide) xinX8 kw431 dX8_buyTruce_35 ?_
  refine lv_iload_n E.1 E.2.1 dX8_buyTruce_38 rfl (lv_at hl 1 rfl) ?_
  refine lv_iload_n E.1 E.2.1 dX8_buyTruce_39 rfl (lv_at hl 2 rfl) ?_
  refine lv_iload_n E.1 E.2.1 dX8_buyTruce_40 rfl (lv_at hl 3 rfl) ?_
  refine x_callop E h hl 1 1 hf (xsub_of rfl) (fun r0 hr => c_X6_refusesTruce l D cy s00 _ (xs 1 S5) p0 p1 p2 r0 hr) m_X6_refusesTruce rfl rfl kw1073 rfl rfl (Nat.le_of_ble_eq_true rfl) ⟨by decide, by decide⟩ ⟨Nat.le_of_ble_eq_true rfl, Nat.le_of_ble_eq_true rfl⟩ dX8_buyTruce_41 (fun v6 H locs hf h => ?_)
  refine x_xcallv E h hl hex 0 hf (fun E8 r8 S8 hr => c_X8_refuseIf l D cy s00 _ hT hG S5 v6 E8 r8 S8 hr) m_X8_refuseIf rfl rfl kw958 rfl rfl (Nat.le_of_ble_eq_true rfl) ⟨by decide, by decide⟩ ⟨Nat.le_of_ble_eq_true rfl, Nat.le_of_ble_eq_true rfl⟩ ⟨Nat.le_of_ble_eq_true rfl, Nat.le_of_ble_eq_true rfl⟩ dX8_buyTruce_44 (fun _ S7 H locs hf h => ?_)
  refine lv_aload_n E.1 E.2.1 dX8_buyTruce_47 rfl (lv_at hl 0 rfl) ?_
  refine x_getr E h 0 3 27 rfl rfl rfl (by decide) xinX8 kw434 dX8_buyTruce_48 ?_
  refine lv_aload_n E.1 E.2.1 dX8_buyTruce_51 rfl (lv_at hl 0 rfl) ?_
  refine x_getr E h 0 0 1 rfl rfl rfl (by decide) xinX8 kw431 dX8_buyTruce_52 ?_
  refine x_callFv (σ := xσ 27 106 1) (τ := xτ 27 106 1 13) E h hl 27 hf (xsubF_of (by decide +kernel)) (xinv_two (by omega)) (fun r0 hr => c_X2_remember l D cy s00 _ _ r0 hr) m_X2_remember rfl rfl kw715 rfl rfl (Nat.le_of_ble_eq_true rfl) ⟨by decide, by decide⟩ ⟨Nat.le_of_ble_eq_true rfl, Nat.le_of_ble_eq_true rfl⟩ dX8_buyTruce_55 (fun S8 H locs hf h => ?_)
  refine lv_aload_n E.1 E.2.1 dX8_buyTruce_58 rfl (lv_at hl 0 rfl) ?_
  refine x_getr E h 0 0 1 rfl rfl rfl (by decide) xinX8 kw431 dX8_buyTruce_59 ?_
  refine lv_iload_n E.1 E.2.1 dX8_buyTruce_62 rfl (lv_at hl 1 rfl) ?_
  refine lv_iload_n E.1 E.2.1 dX8_buyTruce_63 rfl (lv_at hl 2 rfl) ?_
  refine lv_iload_n E.1 E.2.1 dX8_buyTruce_64 rfl (lv_at hl 3 rfl) ?_
  refine lv_iload E.1 E.2.1 dX8_buyTruce_65 (lv_at hl 4 rfl) ?_
  refine x_calloi E h hl 1 1 hf (xsub_of rfl) (fun r0 Sq0 hr => c_X6_agreeTruce l D cy s00 _ (xs 1 S8) p0 p1 p2 p3 r0 Sq0 hr) m_X6_agreeTruce rfl rfl kw389 rfl rfl (Nat.le_of_ble_eq_true rfl) ⟨by decide, by decide⟩ ⟨Nat.le_of_ble_eq_true rfl, Nat.le_of_ble_eq_true rfl⟩ dX8_buyTruce_67 (fun v9 S10 H locs hf h => ?_)
  exact x_xiret E h hf ⟨Nat.le_of_ble_eq_true rfl, Nat.le_of_ble_eq_true rfl⟩ dX8_buyTruce_70
set_option maxHeartbeats 4000000 in
set_option maxRecDepth 100000 in
theorem c_X8_nominate (l : Launch) (D : va_G) (cy : Nat → ClassId) (s00 : State) (ad : Nat → Nat) (hT : l.stackTraces = false ∧ XDW s00) (hG : XG s00) (S : XS) (p0 p1 : Int32) (E9 : Nat) (r9 : Int32) (S9 : XS) (hf : f_X8_nominate S p0 p1 = some (E9, r9, S9)) : XXI l yX8_nominate cX8_nominate 3 (some .int) 7 3 D cy s00 shCats ad S [.ref (ad 0), .int p0, .int p1] E9 r9 S9 := by
  refine XXI.of (by decide) [(0, .ref (ad 0)), (1, .int p0), (2, .int p1)] rfl (Nat.le_of_ble_eq_true rfl) (fun p e s m args below meth c A ls E h hl hex => ?_)
  unfold f_X8_nominate at hf
  refine lv_aload_n E.1 E.2.1 dX8_nominate_0 rfl (lv_at hl 0 rfl) ?_
  refine lv_iload_n E.1 E.2.1 dX8_nominate_1 rfl (lv_at hl 1 rfl) ?_
  refine lv_iconst (v := 1) E.1 E.2.1 dX8_nominate_2 (by decide) ?_
  refine lv_bipush (v := 9) E.1 E.2.1 dX8_nominate_3 (by decide) ?_
  refine x_xcallv E h hl hex 0 hf (fun E8 r8 S8 hr => c_X8_needRange l D cy s00 _ hT hG S p0 1 9 E8 r8 S8 hr) m_X8_needRange rfl rfl kw953 rfl rfl (Nat.le_of_ble_eq_true rfl) ⟨by decide, by decide⟩ ⟨Nat.le_of_ble_eq_true rfl, Nat.le_of_ble_eq_true rfl⟩ ⟨Nat.le_of_ble_eq_true rfl, Nat.le_of_ble_eq_true rfl⟩ dX8_nominate_5 (fun _ S1 H locs hf h => ?_)
  refine lv_aload_n E.1 E.2.1 dX8_nominate_8 rfl (lv_at hl 0 rfl) ?_
  refine lv_iload_n E.1 E.2.1 dX8_nominate_9 rfl (lv_at hl 2 rfl) ?_
  refine lv_iconst (v := 1) E.1 E.2.1 dX8_nominate_10 (by decide) ?_
  refine lv_bipush (v := 9) E.1 E.2.1 dX8_nominate_11 (by decide) ?_
  refine x_xcallv E h hl hex 0 hf (fun E8 r8 S8 hr => c_X8_needRange l D cy s00 _ hT hG S1 p1 1 9 E8 r8 S8 hr) m_X8_needRange rfl rfl kw953 rfl rfl (Nat.le_of_ble_eq_true rfl) ⟨by decide, by decide⟩ ⟨Nat.le_of_ble_eq_true rfl, Nat.le_of_ble_eq_true rfl⟩ ⟨Nat.le_of_ble_eq_true rfl, Nat.le_of_ble_eq_true rfl⟩ dX8_nominate_13 (fun _ S2 H locs hf h => ?_)
  refine lv_aload_n E.1 E.2.1 dX8_nominate_16 rfl (lv_at hl 0 rfl) ?_
  refine lv_aload_n E.1 E.2.1 dX8_nominate_17 rfl (lv_at hl 0 rfl) ?_
  refine x_getr E h 0 0 1 rfl rfl rfl (by decide) xinX8 kw431 dX8_nominate_18 ?_
  refine x_callop E h hl 1 1 hf (xsub_of rfl) (fun r0 hr => c_X6_refusesKitten l D cy s00 _ (xs 1 S2)  r0 hr) m_X6_refusesKitten rfl rfl kw1081 rfl rfl (Nat.le_of_ble_eq_true rfl) ⟨by decide, by decide⟩ ⟨Nat.le_of_ble_eq_true rfl, Nat.le_of_ble_eq_true rfl⟩ dX8_nominate_21 (fun v3 H locs hf h => ?_)
  refine x_xcallv E h hl hex 0 hf (fun E8 r8 S8 hr => c_X8_refuseIf l D cy s00 _ hT hG S2 v3 E8 r8 S8 hr) m_X8_refuseIf rfl rfl kw958 rfl rfl (Nat.le_of_ble_eq_true rfl) ⟨by decide, by decide⟩ ⟨Nat.le_of_ble_eq_true rfl, Nat.le_of_ble_eq_true rfl⟩ ⟨Nat.le_of_ble_eq_true rfl, Nat.le_of_ble_eq_true rfl⟩ dX8_nominate_24 (fun _ S4 H locs hf h => ?_)
  refine lv_aload_n E.1 E.2.1 dX8_nominate_27 rfl (lv_at hl 0 rfl) ?_
  refine x_getr E h 0 3 27 rfl rfl rfl (by decide) xinX8 kw434 dX8_nominate_28 ?_
  refine lv_aload_n E.1 E.2.1 dX8_nominate_31 rfl (lv_at hl 0 rfl) ?_
  refine x_getr E h 0 0 1 rfl rfl rfl (by decide) xinX8 kw431 dX8_nominate_32 ?_
  refine x_callFv (σ := xσ 27 106 1) (τ := xτ 27 106 1 13) E h hl 27 hf (xsubF_of (by decide +kernel)) (xinv_two (by omega)) (fun r0 hr => c_X2_remember l D cy s00 _ _ r0 hr) m_X2_remember rfl rfl kw715 rfl rfl (Nat.le_of_ble_eq_true rfl) ⟨by decide, by decide⟩ ⟨Nat.le_of_ble_eq_true rfl, Nat.le_of_ble_eq_true rfl⟩ dX8_nominate_35 (fun S5 H locs hf h => ?_)
  refine lv_aload_n E.1 E.2.1 dX8_nominate_38 rfl (lv_at hl 0 rfl) ?_
  refine x_getr E h 0 0 1 rfl rfl rfl (by decide) xinX8 kw431 dX8_nominate_39 ?_
  refine x_getr E h 1 16 12 rfl rfl rfl (by decide) xinX6 kw217 dX8_nominate_42 ?_
  refine lv_iload_n E.1 E.2.1 dX8_nominate_45 rfl (lv_at hl 1 rfl) ?_
  refine lv_iload_n E.1 E.2.1 dX8_nominate_46 rfl (lv_at hl 2 rfl) ?_
  refine x_callov E h hl 12 12 hf (xsub_of rfl) (fun r0 hr => c_X3_arrive l D cy s00 _ (xs 12 S5) p0 p1 r0 hr) m_X3_arrive rfl rfl kw1082 rfl rfl (Nat.le_of_ble_eq_true rfl) ⟨by decide, by decide⟩ ⟨Nat.le_of_ble_eq_true rfl, Nat.le_of_ble_eq_true rfl⟩ dX8_nominate_47 (fun S6 H locs hf h => ?_)
  refine lv_aload_n E.1 E.2.1 dX8_nominate_50 rfl (lv_at hl 0 rfl) ?_
  refine x_getr E h 0 0 1 rfl rfl rfl (by decide) xinX8 kw431 dX8_nominate_51 ?_
  refine x_get E h 1 7 rfl rfl rfl (by decide) xinX6 kw203 dX8_nominate_54 ?_
  exact x_xiret E h hf ⟨Nat.le_of_ble_eq_true rfl, Nat.le_of_ble_eq_true rfl⟩ dX8_nominate_57
set_option maxHeartbeats 4000000 in
set_option maxRecDepth 100000 in
theorem c_X8_vote (l : Launch) (D : va_G) (cy : Nat → ClassId) (s00 : State) (ad : Nat → Nat) (hT : l.stackTraces = false ∧ XDW s00) (hG : XG s00) (S : XS) (p0 p1 : Int32) (E9 : Nat) (r9 : Int32) (S9 : XS) (hf : f_X8_vote S p0 p1 = some (E9, r9, S9)) : XXI l yX8_vote cX8_vote 3 (some .boolean) 7 2 D cy s00 shCats ad S [.ref (ad 0), .int p0, .int p1] E9 r9 S9 := by
  refine XXI.of (by decide) [(0, .ref (ad 0)), (1, .int p0), (2, .int p1)] rfl (Nat.le_of_ble_eq_true rfl) (fun p e s m args below meth c A ls E h hl hex => ?_)
  unfold f_X8_vote at hf
  refine lv_aload_n E.1 E.2.1 dX8_vote_0 rfl (lv_at hl 0 rfl) ?_
  refine lv_iload_n E.1 E.2.1 dX8_vote_1 rfl (lv_at hl 1 rfl) ?_
  refine x_xcallv E h hl hex 0 hf (fun E8 r8 S8 hr => c_X8_needCat l D cy s00 _ hT hG S p0 E8 r8 S8 hr) m_X8_needCat rfl rfl kw1027 rfl rfl (Nat.le_of_ble_eq_true rfl) ⟨by decide, by decide⟩ ⟨Nat.le_of_ble_eq_true rfl, Nat.le_of_ble_eq_true rfl⟩ ⟨Nat.le_of_ble_eq_true rfl, Nat.le_of_ble_eq_true rfl⟩ dX8_vote_2 (fun _ S1 H locs hf h => ?_)
  refine lv_aload_n E.1 E.2.1 dX8_vote_5 rfl (lv_at hl 0 rfl) ?_
  refine lv_aload_n E.1 E.2.1 dX8_vote_6 rfl (lv_at hl 0 rfl) ?_
  refine x_getr E h 0 0 1 rfl rfl rfl (by decide) xinX8 kw431 dX8_vote_7 ?_
  refine lv_iload_n E.1 E.2.1 dX8_vote_10 rfl (lv_at hl 1 rfl) ?_
  refine x_callop E h hl 1 1 hf (xsub_of rfl) (fun r0 hr => c_X6_refusesVote l D cy s00 _ (xs 1 S1) p0 r0 hr) m_X6_refusesVote rfl rfl kw1090 rfl rfl (Nat.le_of_ble_eq_true rfl) ⟨by decide, by decide⟩ ⟨Nat.le_of_ble_eq_true rfl, Nat.le_of_ble_eq_true rfl⟩ dX8_vote_11 (fun v2 H locs hf h => ?_)
  refine x_xcallv E h hl hex 0 hf (fun E8 r8 S8 hr => c_X8_refuseIf l D cy s00 _ hT hG S1 v2 E8 r8 S8 hr) m_X8_refuseIf rfl rfl kw958 rfl rfl (Nat.le_of_ble_eq_true rfl) ⟨by decide, by decide⟩ ⟨Nat.le_of_ble_eq_true rfl, Nat.le_of_ble_eq_true rfl⟩ ⟨Nat.le_of_ble_eq_true rfl, Nat.le_of_ble_eq_true rfl⟩ dX8_vote_14 (fun _ S3 H locs hf h => ?_)
  refine lv_aload_n E.1 E.2.1 dX8_vote_17 rfl (lv_at hl 0 rfl) ?_
  refine x_getr E h 0 3 27 rfl rfl rfl (by decide) xinX8 kw434 dX8_vote_18 ?_
  refine lv_aload_n E.1 E.2.1 dX8_vote_21 rfl (lv_at hl 0 rfl) ?_
  refine x_getr E h 0 0 1 rfl rfl rfl (by decide) xinX8 kw431 dX8_vote_22 ?_
  refine x_callFv (σ := xσ 27 106 1) (τ := xτ 27 106 1 13) E h hl 27 hf (xsubF_of (by decide +kernel)) (xinv_two (by omega)) (fun r0 hr => c_X2_remember l D cy s00 _ _ r0 hr) m_X2_remember rfl rfl kw715 rfl rfl (Nat.le_of_ble_eq_true rfl) ⟨by decide, by decide⟩ ⟨Nat.le_of_ble_eq_true rfl, Nat.le_of_ble_eq_true rfl⟩ dX8_vote_25 (fun S4 H locs hf h => ?_)
  refine lv_aload_n E.1 E.2.1 dX8_vote_28 rfl (lv_at hl 0 rfl) ?_
  refine x_getr E h 0 0 1 rfl rfl rfl (by decide) xinX8 kw431 dX8_vote_29 ?_
  refine lv_iload_n E.1 E.2.1 dX8_vote_32 rfl (lv_at hl 1 rfl) ?_
  refine lv_iload_n E.1 E.2.1 dX8_vote_33 rfl (lv_at hl 2 rfl) ?_
  refine x_calloi E h hl 1 1 hf (xsub_of rfl) (fun r0 Sq0 hr => c_X6_takeVote l D cy s00 _ (xs 1 S4) p0 p1 r0 Sq0 hr) m_X6_takeVote rfl rfl kw1091 rfl rfl (Nat.le_of_ble_eq_true rfl) ⟨by decide, by decide⟩ ⟨Nat.le_of_ble_eq_true rfl, Nat.le_of_ble_eq_true rfl⟩ dX8_vote_34 (fun v5 S6 H locs hf h => ?_)
  exact x_xzret E h hf ⟨Nat.le_of_ble_eq_true rfl, Nat.le_of_ble_eq_true rfl⟩ dX8_vote_37
set_option maxHeartbeats 4000000 in
set_option maxRecDepth 100000 in
theorem c_X8_passNights (l : Launch) (D : va_G) (cy : Nat → ClassId) (s00 : State) (ad : Nat → Nat) (hT : l.stackTraces = false ∧ XDW s00) (hG : XG s00) (S : XS) (p0 : Int32) (E9 : Nat) (r9 : Int32) (S9 : XS) (hf : f_X8_passNights S p0 = some (E9, r9, S9)) : XXI l yX8_passNights cX8_passNights 2 (some .int) 7 2 D cy s00 shCats ad S [.ref (ad 0), .int p0] E9 r9 S9 := by
  refine XXI.of (by decide) [(0, .ref (ad 0)), (1, .int p0)] rfl (Nat.le_of_ble_eq_true rfl) (fun p e s m args below meth c A ls E h hl hex => ?_)
  unfold f_X8_passNights at hf
  refine lv_aload_n E.1 E.2.1 dX8_passNights_0 rfl (lv_at hl 0 rfl) ?_
  refine lv_iload_n E.1 E.2.1 dX8_passNights_1 rfl (lv_at hl 1 rfl) ?_
  refine lv_iconst (v := 1) E.1 E.2.1 dX8_passNights_2 (by decide) ?_
  refine lv_bipush (v := 30) E.1 E.2.1 dX8_passNights_3 (by decide) ?_
  refine x_xcallv E h hl hex 0 hf (fun E8 r8 S8 hr => c_X8_needRange l D cy s00 _ hT hG S p0 1 30 E8 r8 S8 hr) m_X8_needRange rfl rfl kw953 rfl rfl (Nat.le_of_ble_eq_true rfl) ⟨by decide, by decide⟩ ⟨Nat.le_of_ble_eq_true rfl, Nat.le_of_ble_eq_true rfl⟩ ⟨Nat.le_of_ble_eq_true rfl, Nat.le_of_ble_eq_true rfl⟩ dX8_passNights_5 (fun _ S1 H locs hf h => ?_)
  refine lv_aload_n E.1 E.2.1 dX8_passNights_8 rfl (lv_at hl 0 rfl) ?_
  refine lv_aload_n E.1 E.2.1 dX8_passNights_9 rfl (lv_at hl 0 rfl) ?_
  refine x_getr E h 0 0 1 rfl rfl rfl (by decide) xinX8 kw431 dX8_passNights_10 ?_
  refine lv_iload_n E.1 E.2.1 dX8_passNights_13 rfl (lv_at hl 1 rfl) ?_
  refine x_callop E h hl 1 1 hf (xsub_of rfl) (fun r0 hr => c_X6_refusesNights l D cy s00 _ (xs 1 S1) p0 r0 hr) m_X6_refusesNights rfl rfl kw1099 rfl rfl (Nat.le_of_ble_eq_true rfl) ⟨by decide, by decide⟩ ⟨Nat.le_of_ble_eq_true rfl, Nat.le_of_ble_eq_true rfl⟩ dX8_passNights_14 (fun v2 H locs hf h => ?_)
  refine x_xcallv E h hl hex 0 hf (fun E8 r8 S8 hr => c_X8_refuseIf l D cy s00 _ hT hG S1 v2 E8 r8 S8 hr) m_X8_refuseIf rfl rfl kw958 rfl rfl (Nat.le_of_ble_eq_true rfl) ⟨by decide, by decide⟩ ⟨Nat.le_of_ble_eq_true rfl, Nat.le_of_ble_eq_true rfl⟩ ⟨Nat.le_of_ble_eq_true rfl, Nat.le_of_ble_eq_true rfl⟩ dX8_passNights_17 (fun _ S3 H locs hf h => ?_)
  refine lv_aload_n E.1 E.2.1 dX8_passNights_20 rfl (lv_at hl 0 rfl) ?_
  refine x_getr E h 0 3 27 rfl rfl rfl (by decide) xinX8 kw434 dX8_passNights_21 ?_
  refine lv_aload_n E.1 E.2.1 dX8_passNights_24 rfl (lv_at hl 0 rfl) ?_
  refine x_getr E h 0 0 1 rfl rfl rfl (by decide) xinX8 kw431 dX8_passNights_25 ?_
  refine x_callFv (σ := xσ 27 106 1) (τ := xτ 27 106 1 13) E h hl 27 hf (xsubF_of (by decide +kernel)) (xinv_two (by omega)) (fun r0 hr => c_X2_remember l D cy s00 _ _ r0 hr) m_X2_remember rfl rfl kw715 rfl rfl (Nat.le_of_ble_eq_true rfl) ⟨by decide, by decide⟩ ⟨Nat.le_of_ble_eq_true rfl, Nat.le_of_ble_eq_true rfl⟩ dX8_passNights_28 (fun S4 H locs hf h => ?_)
  refine lv_aload_n E.1 E.2.1 dX8_passNights_31 rfl (lv_at hl 0 rfl) ?_
  refine x_getr E h 0 0 1 rfl rfl rfl (by decide) xinX8 kw431 dX8_passNights_32 ?_
  refine lv_iload_n E.1 E.2.1 dX8_passNights_35 rfl (lv_at hl 1 rfl) ?_
  refine x_calloi E h hl 1 1 hf (xsub_of rfl) (fun r0 Sq0 hr => c_X6_spendNights l D cy s00 _ (xs 1 S4) p0 r0 Sq0 hr) m_X6_spendNights rfl rfl kw393 rfl rfl (Nat.le_of_ble_eq_true rfl) ⟨by decide, by decide⟩ ⟨Nat.le_of_ble_eq_true rfl, Nat.le_of_ble_eq_true rfl⟩ dX8_passNights_36 (fun v5 S6 H locs hf h => ?_)
  exact x_xiret E h hf ⟨Nat.le_of_ble_eq_true rfl, Nat.le_of_ble_eq_true rfl⟩ dX8_passNights_39
set_option maxHeartbeats 4000000 in
set_option maxRecDepth 100000 in
theorem c_X8_undo (l : Launch) (D : va_G) (cy : Nat → ClassId) (s00 : State) (ad : Nat → Nat) (S : XS) (r9 : Int32) (S9 : XS) (hf : f_X8_undo S = some (r9, S9)) : XI l yX8_undo cX8_undo 1 (some .int) 4 D cy s00 shCats ad S [.ref (ad 0)] r9 S9 := by
  refine XI.of (by decide) [(0, .ref (ad 0))] rfl (Nat.le_of_ble_eq_true rfl) (fun p e s m args below meth c A ls E h hl => ?_)
  unfold f_X8_undo at hf
  refine lv_aload_n E.1 E.2.1 dX8_undo_0 rfl (lv_at hl 0 rfl) ?_
  refine x_getr E h 0 3 27 rfl rfl rfl (by decide) xinX8 kw434 dX8_undo_1 ?_
  refine x_get E h 27 2 rfl rfl rfl (by decide) xinX2 kw266 dX8_undo_4 ?_
  refine x_brn hf (lv_if_ne (tgt := 12) E.1 E.2.1 dX8_undo_7 (by decide)) (fun hf => ?_) (fun hf => ?_)
  · refine lv_aload_n E.1 E.2.1 dX8_undo_12 rfl (lv_at hl 0 rfl) ?_
    refine x_getr E h 0 3 27 rfl rfl rfl (by decide) xinX8 kw434 dX8_undo_13 ?_
    refine lv_aload_n E.1 E.2.1 dX8_undo_16 rfl (lv_at hl 0 rfl) ?_
    refine x_getr E h 0 0 1 rfl rfl rfl (by decide) xinX8 kw431 dX8_undo_17 ?_
    refine x_callFv (σ := xσ 27 106 1) (τ := xτ 27 106 1 13) E h hl 27 hf (xsubF_of (by decide +kernel)) (xinv_two (by omega)) (fun r0 hr => c_X2_takeBack l D cy s00 _ _ r0 hr) m_X2_takeBack rfl rfl kw736 rfl rfl (Nat.le_of_ble_eq_true rfl) ⟨by decide, by decide⟩ ⟨Nat.zero_le _, Nat.zero_le _⟩ dX8_undo_20 (fun S1 H locs hf h => ?_)
    refine lv_aload_n E.1 E.2.1 dX8_undo_23 rfl (lv_at hl 0 rfl) ?_
    refine x_getr E h 0 3 27 rfl rfl rfl (by decide) xinX8 kw434 dX8_undo_24 ?_
    refine x_get E h 27 2 rfl rfl rfl (by decide) xinX2 kw266 dX8_undo_27 ?_
    exact x_iret E h hf dX8_undo_30
  · refine lv_iconst (v := (-1)) E.1 E.2.1 dX8_undo_10 (by decide) ?_
    exact x_iret E h hf dX8_undo_11
set_option maxHeartbeats 4000000 in
set_option maxRecDepth 100000 in
theorem c_X8_undoCount (l : Launch) (D : va_G) (cy : Nat → ClassId) (s00 : State) (ad : Nat → Nat) (S : XS) (r9 : Int32) (hf : f_X8_undoCount S = some r9) : XI l yX8_undoCount cX8_undoCount 1 (some .int) 0 D cy s00 shCats ad S [.ref (ad 0)] r9 S := by
  refine XI.of (by decide) [(0, .ref (ad 0))] rfl (Nat.le_of_ble_eq_true rfl) (fun p e s m args below meth c A ls E h hl => ?_)
  unfold f_X8_undoCount at hf
  refine lv_aload_n E.1 E.2.1 dX8_undoCount_0 rfl (lv_at hl 0 rfl) ?_
  refine x_getr E h 0 3 27 rfl rfl rfl (by decide) xinX8 kw434 dX8_undoCount_1 ?_
  refine x_get E h 27 2 rfl rfl rfl (by decide) xinX2 kw266 dX8_undoCount_4 ?_
  exact x_irp E h hf dX8_undoCount_7
set_option maxHeartbeats 4000000 in
set_option maxRecDepth 100000 in
theorem c_X8_saveSnapshot (l : Launch) (D : va_G) (cy : Nat → ClassId) (s00 : State) (ad : Nat → Nat) (S : XS) (r9 : Int32) (S9 : XS) (hf : f_X8_saveSnapshot S = some (r9, S9)) : XI l yX8_saveSnapshot cX8_saveSnapshot 1 (some .int) 3 D cy s00 shCats ad S [.ref (ad 0)] r9 S9 := by
  refine XI.of (by decide) [(0, .ref (ad 0))] rfl (Nat.le_of_ble_eq_true rfl) (fun p e s m args below meth c A ls E h hl => ?_)
  unfold f_X8_saveSnapshot at hf
  refine lv_aload_n E.1 E.2.1 dX8_saveSnapshot_0 rfl (lv_at hl 0 rfl) ?_
  refine x_getr E h 0 1 14 rfl rfl rfl (by decide) xinX8 kw432 dX8_saveSnapshot_1 ?_
  refine lv_aload_n E.1 E.2.1 dX8_saveSnapshot_4 rfl (lv_at hl 0 rfl) ?_
  refine x_getr E h 0 0 1 rfl rfl rfl (by decide) xinX8 kw431 dX8_saveSnapshot_5 ?_
  refine x_callFv (σ := xσ 14 13 1) (τ := xτ 14 13 1 13) E h hl 14 hf (xsubF_of (by decide +kernel)) (xinv_two (by omega)) (fun r0 hr => c_X6_copyFrom l D cy s00 _ _ r0 hr) m_X6_copyFrom rfl rfl kw731 rfl rfl (Nat.le_of_ble_eq_true rfl) ⟨by decide, by decide⟩ ⟨Nat.zero_le _, Nat.zero_le _⟩ dX8_saveSnapshot_8 (fun S1 H locs hf h => ?_)
  refine lv_aload_n E.1 E.2.1 dX8_saveSnapshot_11 rfl (lv_at hl 0 rfl) ?_
  refine lv_iconst (v := 1) E.1 E.2.1 dX8_saveSnapshot_12 (by decide) ?_
  refine x_put (ty := .boolean) E h 0 2 hf rfl rfl rfl (by decide) xinX8 tyX8_ok nmX8 kw433 rfl (by decide +kernel) (by decide) (by decide) dX8_saveSnapshot_13 (fun S2 H locs hf h => ?_)
  refine lv_aload_n E.1 E.2.1 dX8_saveSnapshot_16 rfl (lv_at hl 0 rfl) ?_
  refine x_getr E h 0 0 1 rfl rfl rfl (by decide) xinX8 kw431 dX8_saveSnapshot_17 ?_
  refine x_get E h 1 13 rfl rfl rfl (by decide) xinX6 kw213 dX8_saveSnapshot_20 ?_
  exact x_iret E h hf dX8_saveSnapshot_23
set_option maxHeartbeats 4000000 in
set_option maxRecDepth 100000 in
theorem c_X8_restoreSnapshot (l : Launch) (D : va_G) (cy : Nat → ClassId) (s00 : State) (ad : Nat → Nat) (hT : l.stackTraces = false ∧ XDW s00) (hG : XG s00) (S : XS) (E9 : Nat) (r9 : Int32) (S9 : XS) (hf : f_X8_restoreSnapshot S = some (E9, r9, S9)) : XXI l yX8_restoreSnapshot cX8_restoreSnapshot 1 (some .int) 6 1 D cy s00 shCats ad S [.ref (ad 0)] E9 r9 S9 := by
  refine XXI.of (by decide) [(0, .ref (ad 0))] rfl (Nat.le_of_ble_eq_true rfl) (fun p e s m args below meth c A ls E h hl hex => ?_)
  unfold f_X8_restoreSnapshot at hf
  refine lv_aload_n E.1 E.2.1 dX8_restoreSnapshot_0 rfl (lv_at hl 0 rfl) ?_
  refine x_get E h 0 2 rfl rfl rfl (by decide) xinX8 kw433 dX8_restoreSnapshot_1 ?_
  refine x_brn hf (lv_if_ne (tgt := 17) E.1 E.2.1 dX8_restoreSnapshot_4 (by decide)) (fun hf => ?_) (fun hf => ?_)
  · refine lv_aload_n E.1 E.2.1 dX8_restoreSnapshot_17 rfl (lv_at hl 0 rfl) ?_
    refine x_getr E h 0 0 1 rfl rfl rfl (by decide) xinX8 kw431 dX8_restoreSnapshot_18 ?_
    refine lv_aload_n E.1 E.2.1 dX8_restoreSnapshot_21 rfl (lv_at hl 0 rfl) ?_
    refine x_getr E h 0 1 14 rfl rfl rfl (by decide) xinX8 kw432 dX8_restoreSnapshot_22 ?_
    refine x_callFv (σ := xσ 1 13 14) (τ := xτ 1 13 14 13) E h hl 1 hf (xsubF_of (by decide +kernel)) (xinv_two (by omega)) (fun r0 hr => c_X6_copyFrom l D cy s00 _ _ r0 hr) m_X6_copyFrom rfl rfl kw731 rfl rfl (Nat.le_of_ble_eq_true rfl) ⟨by decide, by decide⟩ ⟨Nat.le_of_ble_eq_true rfl, Nat.le_of_ble_eq_true rfl⟩ dX8_restoreSnapshot_25 (fun S1 H locs hf h => ?_)
    refine lv_aload_n E.1 E.2.1 dX8_restoreSnapshot_28 rfl (lv_at hl 0 rfl) ?_
    refine x_getr E h 0 3 27 rfl rfl rfl (by decide) xinX8 kw434 dX8_restoreSnapshot_29 ?_
    refine x_callov E h hl 27 27 hf (xsub_of rfl) (fun r0 hr => c_X2_forget l D cy s00 _ (xs 27 S1)  r0 hr) m_X2_forget rfl rfl kw1124 rfl rfl (Nat.le_of_ble_eq_true rfl) ⟨by decide, by decide⟩ ⟨Nat.le_of_ble_eq_true rfl, Nat.le_of_ble_eq_true rfl⟩ dX8_restoreSnapshot_32 (fun S2 H locs hf h => ?_)
    refine lv_aload_n E.1 E.2.1 dX8_restoreSnapshot_35 rfl (lv_at hl 0 rfl) ?_
    refine x_getr E h 0 0 1 rfl rfl rfl (by decide) xinX8 kw431 dX8_restoreSnapshot_36 ?_
    refine x_get E h 1 13 rfl rfl rfl (by decide) xinX6 kw213 dX8_restoreSnapshot_39 ?_
    exact x_xiret E h hf ⟨Nat.le_of_ble_eq_true rfl, Nat.le_of_ble_eq_true rfl⟩ dX8_restoreSnapshot_42
  · exact x_thrN hT hG E h hl hex 4 rfl (by decide) (by decide +kernel) 8 rfl kw1108 kw141 xat4 hf ⟨Nat.le_of_ble_eq_true rfl, Nat.le_of_ble_eq_true rfl⟩ ⟨Nat.le_of_ble_eq_true rfl, Nat.le_of_ble_eq_true rfl⟩ ⟨Nat.le_of_ble_eq_true rfl, Nat.le_of_ble_eq_true rfl⟩ dX8_restoreSnapshot_7 dX8_restoreSnapshot_10 dX8_restoreSnapshot_11 dX8_restoreSnapshot_13 dX8_restoreSnapshot_16
set_option maxHeartbeats 4000000 in
set_option maxRecDepth 100000 in
theorem c_X8_scriptErrorKind (l : Launch) (D : va_G) (cy : Nat → ClassId) (s00 : State) (ad : Nat → Nat) (S : XS) (r9 : Int32) (hf : f_X8_scriptErrorKind S = some r9) : XI l yX8_scriptErrorKind cX8_scriptErrorKind 1 (some .int) 0 D cy s00 shCats ad S [.ref (ad 0)] r9 S := by
  refine XI.of (by decide) [(0, .ref (ad 0))] rfl (Nat.le_of_ble_eq_true rfl) (fun p e s m args below meth c A ls E h hl => ?_)
  unfold f_X8_scriptErrorKind at hf
  refine lv_aload_n E.1 E.2.1 dX8_scriptErrorKind_0 rfl (lv_at hl 0 rfl) ?_
  refine x_getr E h 0 4 133 rfl rfl rfl (by decide) xinX8 kw435 dX8_scriptErrorKind_1 ?_
  refine x_get E h 133 2 rfl rfl rfl (by decide) xinX7 kw318 dX8_scriptErrorKind_4 ?_
  exact x_irp E h hf dX8_scriptErrorKind_7
set_option maxHeartbeats 4000000 in
set_option maxRecDepth 100000 in
theorem c_X8_scriptErrorOffset (l : Launch) (D : va_G) (cy : Nat → ClassId) (s00 : State) (ad : Nat → Nat) (S : XS) (r9 : Int32) (hf : f_X8_scriptErrorOffset S = some r9) : XI l yX8_scriptErrorOffset cX8_scriptErrorOffset 1 (some .int) 0 D cy s00 shCats ad S [.ref (ad 0)] r9 S := by
  refine XI.of (by decide) [(0, .ref (ad 0))] rfl (Nat.le_of_ble_eq_true rfl) (fun p e s m args below meth c A ls E h hl => ?_)
  unfold f_X8_scriptErrorOffset at hf
  refine lv_aload_n E.1 E.2.1 dX8_scriptErrorOffset_0 rfl (lv_at hl 0 rfl) ?_
  refine x_getr E h 0 4 133 rfl rfl rfl (by decide) xinX8 kw435 dX8_scriptErrorOffset_1 ?_
  refine x_get E h 133 3 rfl rfl rfl (by decide) xinX7 kw320 dX8_scriptErrorOffset_4 ?_
  exact x_irp E h hf dX8_scriptErrorOffset_7
set_option maxHeartbeats 4000000 in
set_option maxRecDepth 100000 in
theorem c_X8_chimneyCount (l : Launch) (D : va_G) (cy : Nat → ClassId) (s00 : State) (ad : Nat → Nat) (S : XS) (r9 : Int32) (hf : f_X8_chimneyCount S = some r9) : XI l yX8_chimneyCount cX8_chimneyCount 1 (some .int) 0 D cy s00 shCats ad S [.ref (ad 0)] r9 S := by
  refine XI.of (by decide) [(0, .ref (ad 0))] rfl (Nat.le_of_ble_eq_true rfl) (fun p e s m args below meth c A ls E h hl => ?_)
  unfold f_X8_chimneyCount at hf
  refine lv_aload_n E.1 E.2.1 dX8_chimneyCount_0 rfl (lv_at hl 0 rfl) ?_
  refine x_getr E h 0 0 1 rfl rfl rfl (by decide) xinX8 kw431 dX8_chimneyCount_1 ?_
  refine x_get E h 1 0 rfl rfl rfl (by decide) xinX6 kw184 dX8_chimneyCount_4 ?_
  exact x_irp E h hf dX8_chimneyCount_7
set_option maxHeartbeats 4000000 in
set_option maxRecDepth 100000 in
theorem c_X8_gutterCount (l : Launch) (D : va_G) (cy : Nat → ClassId) (s00 : State) (ad : Nat → Nat) (S : XS) (r9 : Int32) (hf : f_X8_gutterCount S = some r9) : XI l yX8_gutterCount cX8_gutterCount 1 (some .int) 0 D cy s00 shCats ad S [.ref (ad 0)] r9 S := by
  refine XI.of (by decide) [(0, .ref (ad 0))] rfl (Nat.le_of_ble_eq_true rfl) (fun p e s m args below meth c A ls E h hl => ?_)
  unfold f_X8_gutterCount at hf
  refine lv_aload_n E.1 E.2.1 dX8_gutterCount_0 rfl (lv_at hl 0 rfl) ?_
  refine x_getr E h 0 0 1 rfl rfl rfl (by decide) xinX8 kw431 dX8_gutterCount_1 ?_
  refine x_get E h 1 3 rfl rfl rfl (by decide) xinX6 kw194 dX8_gutterCount_4 ?_
  exact x_irp E h hf dX8_gutterCount_7
set_option maxHeartbeats 4000000 in
set_option maxRecDepth 100000 in
theorem c_X8_catCount (l : Launch) (D : va_G) (cy : Nat → ClassId) (s00 : State) (ad : Nat → Nat) (S : XS) (r9 : Int32) (hf : f_X8_catCount S = some r9) : XI l yX8_catCount cX8_catCount 1 (some .int) 0 D cy s00 shCats ad S [.ref (ad 0)] r9 S := by
  refine XI.of (by decide) [(0, .ref (ad 0))] rfl (Nat.le_of_ble_eq_true rfl) (fun p e s m args below meth c A ls E h hl => ?_)
  unfold f_X8_catCount at hf
  refine lv_aload_n E.1 E.2.1 dX8_catCount_0 rfl (lv_at hl 0 rfl) ?_
  refine x_getr E h 0 0 1 rfl rfl rfl (by decide) xinX8 kw431 dX8_catCount_1 ?_
  refine x_get E h 1 7 rfl rfl rfl (by decide) xinX6 kw203 dX8_catCount_4 ?_
  exact x_irp E h hf dX8_catCount_7
set_option maxHeartbeats 4000000 in
set_option maxRecDepth 100000 in
theorem c_X8_night (l : Launch) (D : va_G) (cy : Nat → ClassId) (s00 : State) (ad : Nat → Nat) (S : XS) (r9 : Int32) (hf : f_X8_night S = some r9) : XI l yX8_night cX8_night 1 (some .int) 0 D cy s00 shCats ad S [.ref (ad 0)] r9 S := by
  refine XI.of (by decide) [(0, .ref (ad 0))] rfl (Nat.le_of_ble_eq_true rfl) (fun p e s m args below meth c A ls E h hl => ?_)
  unfold f_X8_night at hf
  refine lv_aload_n E.1 E.2.1 dX8_night_0 rfl (lv_at hl 0 rfl) ?_
  refine x_getr E h 0 0 1 rfl rfl rfl (by decide) xinX8 kw431 dX8_night_1 ?_
  refine x_get E h 1 13 rfl rfl rfl (by decide) xinX6 kw213 dX8_night_4 ?_
  exact x_irp E h hf dX8_night_7
set_option maxHeartbeats 4000000 in
set_option maxRecDepth 100000 in
theorem c_X8_moonPhase (l : Launch) (D : va_G) (cy : Nat → ClassId) (s00 : State) (ad : Nat → Nat) (S : XS) (r9 : Int32) (hf : f_X8_moonPhase S = some r9) : XI l yX8_moonPhase cX8_moonPhase 1 (some .int) 0 D cy s00 shCats ad S [.ref (ad 0)] r9 S := by
  refine XI.of (by decide) [(0, .ref (ad 0))] rfl (Nat.le_of_ble_eq_true rfl) (fun p e s m args below meth c A ls E h hl => ?_)
  unfold f_X8_moonPhase at hf
  refine lv_aload_n E.1 E.2.1 dX8_moonPhase_0 rfl (lv_at hl 0 rfl) ?_
  refine x_getr E h 0 0 1 rfl rfl rfl (by decide) xinX8 kw431 dX8_moonPhase_1 ?_
  refine x_get E h 1 13 rfl rfl rfl (by decide) xinX6 kw213 dX8_moonPhase_4 ?_
  refine lv_bipush (v := 8) E.1 E.2.1 dX8_moonPhase_7 (by decide) ?_
  refine lv_irem E.1 E.2.1 dX8_moonPhase_9 (by decide) ?_
  exact x_irp E h hf dX8_moonPhase_10
set_option maxHeartbeats 4000000 in
set_option maxRecDepth 100000 in
theorem c_X8_warmth (l : Launch) (D : va_G) (cy : Nat → ClassId) (s00 : State) (ad : Nat → Nat) (hT : l.stackTraces = false ∧ XDW s00) (hG : XG s00) (S : XS) (p0 : Int32) (E9 : Nat) (r9 : Int32) (S9 : XS) (hf : f_X8_warmth S p0 = some (E9, r9, S9)) : XXI l yX8_warmth cX8_warmth 2 (some .int) 7 1 D cy s00 shCats ad S [.ref (ad 0), .int p0] E9 r9 S9 := by
  refine XXI.of (by decide) [(0, .ref (ad 0)), (1, .int p0)] rfl (Nat.le_of_ble_eq_true rfl) (fun p e s m args below meth c A ls E h hl hex => ?_)
  unfold f_X8_warmth at hf
  refine lv_aload_n E.1 E.2.1 dX8_warmth_0 rfl (lv_at hl 0 rfl) ?_
  refine lv_iload_n E.1 E.2.1 dX8_warmth_1 rfl (lv_at hl 1 rfl) ?_
  refine x_xcallv E h hl hex 0 hf (fun E8 r8 S8 hr => c_X8_needChimney l D cy s00 _ hT hG S p0 E8 r8 S8 hr) m_X8_needChimney rfl rfl kw986 rfl rfl (Nat.le_of_ble_eq_true rfl) ⟨by decide, by decide⟩ ⟨Nat.le_of_ble_eq_true rfl, Nat.le_of_ble_eq_true rfl⟩ ⟨Nat.le_of_ble_eq_true rfl, Nat.le_of_ble_eq_true rfl⟩ dX8_warmth_2 (fun _ S1 H locs hf h => ?_)
  refine lv_aload_n E.1 E.2.1 dX8_warmth_5 rfl (lv_at hl 0 rfl) ?_
  refine x_getr E h 0 0 1 rfl rfl rfl (by decide) xinX8 kw431 dX8_warmth_6 ?_
  refine x_getr E h 1 1 2 rfl rfl rfl (by decide) xinX6 kw188 dX8_warmth_9 ?_
  refine lv_iload_n E.1 E.2.1 dX8_warmth_12 rfl (lv_at hl 1 rfl) ?_
  refine x_iald E h 2 hf rfl dX8_warmth_13 (fun v2 hf => ?_)
  exact x_xiret E h hf ⟨Nat.le_of_ble_eq_true rfl, Nat.le_of_ble_eq_true rfl⟩ dX8_warmth_14
set_option maxHeartbeats 4000000 in
set_option maxRecDepth 100000 in
theorem c_X8_ownerOf (l : Launch) (D : va_G) (cy : Nat → ClassId) (s00 : State) (ad : Nat → Nat) (hT : l.stackTraces = false ∧ XDW s00) (hG : XG s00) (S : XS) (p0 : Int32) (E9 : Nat) (r9 : Int32) (S9 : XS) (hf : f_X8_ownerOf S p0 = some (E9, r9, S9)) : XXI l yX8_ownerOf cX8_ownerOf 2 (some .int) 7 1 D cy s00 shCats ad S [.ref (ad 0), .int p0] E9 r9 S9 := by
  refine XXI.of (by decide) [(0, .ref (ad 0)), (1, .int p0)] rfl (Nat.le_of_ble_eq_true rfl) (fun p e s m args below meth c A ls E h hl hex => ?_)
  unfold f_X8_ownerOf at hf
  refine lv_aload_n E.1 E.2.1 dX8_ownerOf_0 rfl (lv_at hl 0 rfl) ?_
  refine lv_iload_n E.1 E.2.1 dX8_ownerOf_1 rfl (lv_at hl 1 rfl) ?_
  refine x_xcallv E h hl hex 0 hf (fun E8 r8 S8 hr => c_X8_needChimney l D cy s00 _ hT hG S p0 E8 r8 S8 hr) m_X8_needChimney rfl rfl kw986 rfl rfl (Nat.le_of_ble_eq_true rfl) ⟨by decide, by decide⟩ ⟨Nat.le_of_ble_eq_true rfl, Nat.le_of_ble_eq_true rfl⟩ ⟨Nat.le_of_ble_eq_true rfl, Nat.le_of_ble_eq_true rfl⟩ dX8_ownerOf_2 (fun _ S1 H locs hf h => ?_)
  refine lv_aload_n E.1 E.2.1 dX8_ownerOf_5 rfl (lv_at hl 0 rfl) ?_
  refine x_getr E h 0 0 1 rfl rfl rfl (by decide) xinX8 kw431 dX8_ownerOf_6 ?_
  refine x_getr E h 1 2 3 rfl rfl rfl (by decide) xinX6 kw191 dX8_ownerOf_9 ?_
  refine lv_iload_n E.1 E.2.1 dX8_ownerOf_12 rfl (lv_at hl 1 rfl) ?_
  refine x_iald E h 3 hf rfl dX8_ownerOf_13 (fun v2 hf => ?_)
  exact x_xiret E h hf ⟨Nat.le_of_ble_eq_true rfl, Nat.le_of_ble_eq_true rfl⟩ dX8_ownerOf_14
set_option maxHeartbeats 4000000 in
set_option maxRecDepth 100000 in
theorem c_X8_catOn (l : Launch) (D : va_G) (cy : Nat → ClassId) (s00 : State) (ad : Nat → Nat) (hT : l.stackTraces = false ∧ XDW s00) (hG : XG s00) (S : XS) (p0 : Int32) (E9 : Nat) (r9 : Int32) (S9 : XS) (hf : f_X8_catOn S p0 = some (E9, r9, S9)) : XXI l yX8_catOn cX8_catOn 2 (some .int) 7 1 D cy s00 shCats ad S [.ref (ad 0), .int p0] E9 r9 S9 := by
  refine XXI.of (by decide) [(0, .ref (ad 0)), (1, .int p0)] rfl (Nat.le_of_ble_eq_true rfl) (fun p e s m args below meth c A ls E h hl hex => ?_)
  unfold f_X8_catOn at hf
  refine lv_aload_n E.1 E.2.1 dX8_catOn_0 rfl (lv_at hl 0 rfl) ?_
  refine lv_iload_n E.1 E.2.1 dX8_catOn_1 rfl (lv_at hl 1 rfl) ?_
  refine x_xcallv E h hl hex 0 hf (fun E8 r8 S8 hr => c_X8_needChimney l D cy s00 _ hT hG S p0 E8 r8 S8 hr) m_X8_needChimney rfl rfl kw986 rfl rfl (Nat.le_of_ble_eq_true rfl) ⟨by decide, by decide⟩ ⟨Nat.le_of_ble_eq_true rfl, Nat.le_of_ble_eq_true rfl⟩ ⟨Nat.le_of_ble_eq_true rfl, Nat.le_of_ble_eq_true rfl⟩ dX8_catOn_2 (fun _ S1 H locs hf h => ?_)
  refine lv_aload_n E.1 E.2.1 dX8_catOn_5 rfl (lv_at hl 0 rfl) ?_
  refine x_getr E h 0 0 1 rfl rfl rfl (by decide) xinX8 kw431 dX8_catOn_6 ?_
  refine lv_iload_n E.1 E.2.1 dX8_catOn_9 rfl (lv_at hl 1 rfl) ?_
  refine x_callop E h hl 1 1 hf (xsub_of rfl) (fun r0 hr => c_X6_sitter l D cy s00 _ (xs 1 S1) p0 r0 hr) m_X6_sitter rfl rfl kw1149 rfl rfl (Nat.le_of_ble_eq_true rfl) ⟨by decide, by decide⟩ ⟨Nat.le_of_ble_eq_true rfl, Nat.le_of_ble_eq_true rfl⟩ dX8_catOn_10 (fun v2 H locs hf h => ?_)
  exact x_xiret E h hf ⟨Nat.le_of_ble_eq_true rfl, Nat.le_of_ble_eq_true rfl⟩ dX8_catOn_13
set_option maxHeartbeats 4000000 in
set_option maxRecDepth 100000 in
theorem c_X8_gutterEnds (l : Launch) (D : va_G) (cy : Nat → ClassId) (s00 : State) (ad : Nat → Nat) (hT : l.stackTraces = false ∧ XDW s00) (hG : XG s00) (S : XS) (p0 : Int32) (E9 : Nat) (r9 : Int32) (S9 : XS) (hf : f_X8_gutterEnds S p0 = some (E9, r9, S9)) : XXI l yX8_gutterEnds cX8_gutterEnds 2 (some .int) 7 1 D cy s00 shCats ad S [.ref (ad 0), .int p0] E9 r9 S9 := by
  refine XXI.of (by decide) [(0, .ref (ad 0)), (1, .int p0)] rfl (Nat.le_of_ble_eq_true rfl) (fun p e s m args below meth c A ls E h hl hex => ?_)
  unfold f_X8_gutterEnds at hf
  refine lv_aload_n E.1 E.2.1 dX8_gutterEnds_0 rfl (lv_at hl 0 rfl) ?_
  refine lv_iload_n E.1 E.2.1 dX8_gutterEnds_1 rfl (lv_at hl 1 rfl) ?_
  refine x_xcallv E h hl hex 0 hf (fun E8 r8 S8 hr => c_X8_needGutter l D cy s00 _ hT hG S p0 E8 r8 S8 hr) m_X8_needGutter rfl rfl kw1033 rfl rfl (Nat.le_of_ble_eq_true rfl) ⟨by decide, by decide⟩ ⟨Nat.le_of_ble_eq_true rfl, Nat.le_of_ble_eq_true rfl⟩ ⟨Nat.le_of_ble_eq_true rfl, Nat.le_of_ble_eq_true rfl⟩ dX8_gutterEnds_2 (fun _ S1 H locs hf h => ?_)
  refine lv_iconst (v := 1) E.1 E.2.1 dX8_gutterEnds_5 (by decide) ?_
  refine lv_aload_n E.1 E.2.1 dX8_gutterEnds_6 rfl (lv_at hl 0 rfl) ?_
  refine x_getr E h 0 0 1 rfl rfl rfl (by decide) xinX8 kw431 dX8_gutterEnds_7 ?_
  refine x_getr E h 1 4 4 rfl rfl rfl (by decide) xinX6 kw197 dX8_gutterEnds_10 ?_
  refine lv_iload_n E.1 E.2.1 dX8_gutterEnds_13 rfl (lv_at hl 1 rfl) ?_
  refine x_iald E h 4 hf rfl dX8_gutterEnds_14 (fun v2 hf => ?_)
  refine lv_ishl E.1 E.2.1 dX8_gutterEnds_15 ?_
  refine lv_iconst (v := 1) E.1 E.2.1 dX8_gutterEnds_16 (by decide) ?_
  refine lv_aload_n E.1 E.2.1 dX8_gutterEnds_17 rfl (lv_at hl 0 rfl) ?_
  refine x_getr E h 0 0 1 rfl rfl rfl (by decide) xinX8 kw431 dX8_gutterEnds_18 ?_
  refine x_getr E h 1 5 5 rfl rfl rfl (by decide) xinX6 kw199 dX8_gutterEnds_21 ?_
  refine lv_iload_n E.1 E.2.1 dX8_gutterEnds_24 rfl (lv_at hl 1 rfl) ?_
  refine x_iald E h 5 hf rfl dX8_gutterEnds_25 (fun v3 hf => ?_)
  refine lv_ishl E.1 E.2.1 dX8_gutterEnds_26 ?_
  refine lv_ior E.1 E.2.1 dX8_gutterEnds_27 ?_
  exact x_xiret E h hf ⟨Nat.le_of_ble_eq_true rfl, Nat.le_of_ble_eq_true rfl⟩ dX8_gutterEnds_28
set_option maxHeartbeats 4000000 in
set_option maxRecDepth 100000 in
theorem c_X8_width (l : Launch) (D : va_G) (cy : Nat → ClassId) (s00 : State) (ad : Nat → Nat) (hT : l.stackTraces = false ∧ XDW s00) (hG : XG s00) (S : XS) (p0 : Int32) (E9 : Nat) (r9 : Int32) (S9 : XS) (hf : f_X8_width S p0 = some (E9, r9, S9)) : XXI l yX8_width cX8_width 2 (some .int) 7 1 D cy s00 shCats ad S [.ref (ad 0), .int p0] E9 r9 S9 := by
  refine XXI.of (by decide) [(0, .ref (ad 0)), (1, .int p0)] rfl (Nat.le_of_ble_eq_true rfl) (fun p e s m args below meth c A ls E h hl hex => ?_)
  unfold f_X8_width at hf
  refine lv_aload_n E.1 E.2.1 dX8_width_0 rfl (lv_at hl 0 rfl) ?_
  refine lv_iload_n E.1 E.2.1 dX8_width_1 rfl (lv_at hl 1 rfl) ?_
  refine x_xcallv E h hl hex 0 hf (fun E8 r8 S8 hr => c_X8_needGutter l D cy s00 _ hT hG S p0 E8 r8 S8 hr) m_X8_needGutter rfl rfl kw1033 rfl rfl (Nat.le_of_ble_eq_true rfl) ⟨by decide, by decide⟩ ⟨Nat.le_of_ble_eq_true rfl, Nat.le_of_ble_eq_true rfl⟩ ⟨Nat.le_of_ble_eq_true rfl, Nat.le_of_ble_eq_true rfl⟩ dX8_width_2 (fun _ S1 H locs hf h => ?_)
  refine lv_aload_n E.1 E.2.1 dX8_width_5 rfl (lv_at hl 0 rfl) ?_
  refine x_getr E h 0 0 1 rfl rfl rfl (by decide) xinX8 kw431 dX8_width_6 ?_
  refine x_getr E h 1 6 6 rfl rfl rfl (by decide) xinX6 kw201 dX8_width_9 ?_
  refine lv_iload_n E.1 E.2.1 dX8_width_12 rfl (lv_at hl 1 rfl) ?_
  refine x_iald E h 6 hf rfl dX8_width_13 (fun v2 hf => ?_)
  exact x_xiret E h hf ⟨Nat.le_of_ble_eq_true rfl, Nat.le_of_ble_eq_true rfl⟩ dX8_width_14
set_option maxHeartbeats 4000000 in
set_option maxRecDepth 100000 in
theorem c_X8_widestWay (l : Launch) (D : va_G) (cy : Nat → ClassId) (s00 : State) (ad : Nat → Nat) (hT : l.stackTraces = false ∧ XDW s00) (hG : XG s00) (S : XS) (p0 p1 : Int32) (E9 : Nat) (r9 : Int32) (S9 : XS) (hf : f_X8_widestWay S p0 p1 = some (E9, r9, S9)) : XXI l yX8_widestWay cX8_widestWay 3 (some .int) 7 2 D cy s00 shCats ad S [.ref (ad 0), .int p0, .int p1] E9 r9 S9 := by
  refine XXI.of (by decide) [(0, .ref (ad 0)), (1, .int p0), (2, .int p1)] rfl (Nat.le_of_ble_eq_true rfl) (fun p e s m args below meth c A ls E h hl hex => ?_)
  unfold f_X8_widestWay at hf
  refine lv_aload_n E.1 E.2.1 dX8_widestWay_0 rfl (lv_at hl 0 rfl) ?_
  refine lv_iload_n E.1 E.2.1 dX8_widestWay_1 rfl (lv_at hl 1 rfl) ?_
  refine x_xcallv E h hl hex 0 hf (fun E8 r8 S8 hr => c_X8_needChimney l D cy s00 _ hT hG S p0 E8 r8 S8 hr) m_X8_needChimney rfl rfl kw986 rfl rfl (Nat.le_of_ble_eq_true rfl) ⟨by decide, by decide⟩ ⟨Nat.le_of_ble_eq_true rfl, Nat.le_of_ble_eq_true rfl⟩ ⟨Nat.le_of_ble_eq_true rfl, Nat.le_of_ble_eq_true rfl⟩ dX8_widestWay_2 (fun _ S1 H locs hf h => ?_)
  refine lv_aload_n E.1 E.2.1 dX8_widestWay_5 rfl (lv_at hl 0 rfl) ?_
  refine lv_iload_n E.1 E.2.1 dX8_widestWay_6 rfl (lv_at hl 2 rfl) ?_
  refine x_xcallv E h hl hex 0 hf (fun E8 r8 S8 hr => c_X8_needChimney l D cy s00 _ hT hG S1 p1 E8 r8 S8 hr) m_X8_needChimney rfl rfl kw986 rfl rfl (Nat.le_of_ble_eq_true rfl) ⟨by decide, by decide⟩ ⟨Nat.le_of_ble_eq_true rfl, Nat.le_of_ble_eq_true rfl⟩ ⟨Nat.le_of_ble_eq_true rfl, Nat.le_of_ble_eq_true rfl⟩ dX8_widestWay_7 (fun _ S2 H locs hf h => ?_)
  refine lv_aload_n E.1 E.2.1 dX8_widestWay_10 rfl (lv_at hl 0 rfl) ?_
  refine x_getr E h 0 0 1 rfl rfl rfl (by decide) xinX8 kw431 dX8_widestWay_11 ?_
  refine lv_iload_n E.1 E.2.1 dX8_widestWay_14 rfl (lv_at hl 1 rfl) ?_
  refine lv_iload_n E.1 E.2.1 dX8_widestWay_15 rfl (lv_at hl 2 rfl) ?_
  refine x_callop E h hl 1 1 hf (xsub_of rfl) (fun r0 hr => c_X6_widestGirth l D cy s00 _ (xs 1 S2) p0 p1 r0 hr) m_X6_widestGirth rfl rfl kw1171 rfl rfl (Nat.le_of_ble_eq_true rfl) ⟨by decide, by decide⟩ ⟨Nat.le_of_ble_eq_true rfl, Nat.le_of_ble_eq_true rfl⟩ dX8_widestWay_16 (fun v3 H locs hf h => ?_)
  exact x_xiret E h hf ⟨Nat.le_of_ble_eq_true rfl, Nat.le_of_ble_eq_true rfl⟩ dX8_widestWay_19
set_option maxHeartbeats 4000000 in
set_option maxRecDepth 100000 in
theorem c_X8_warmestFree (l : Launch) (D : va_G) (cy : Nat → ClassId) (s00 : State) (ad : Nat → Nat) (S : XS) (r9 : Int32) (hf : f_X8_warmestFree S = some r9) : XI l yX8_warmestFree cX8_warmestFree 1 (some .int) 2 D cy s00 shCats ad S [.ref (ad 0)] r9 S := by
  refine XI.of (by decide) [(0, .ref (ad 0))] rfl (Nat.le_of_ble_eq_true rfl) (fun p e s m args below meth c A ls E h hl => ?_)
  unfold f_X8_warmestFree at hf
  refine lv_aload_n E.1 E.2.1 dX8_warmestFree_0 rfl (lv_at hl 0 rfl) ?_
  refine x_getr E h 0 0 1 rfl rfl rfl (by decide) xinX8 kw431 dX8_warmestFree_1 ?_
  refine x_callop E h hl 1 1 hf (xsub_of rfl) (fun r0 hr => c_X6_warmestSeat l D cy s00 _ (xs 1 S)  r0 hr) m_X6_warmestSeat rfl rfl kw780 rfl rfl (Nat.le_of_ble_eq_true rfl) ⟨by decide, by decide⟩ ⟨Nat.zero_le _, Nat.zero_le _⟩ dX8_warmestFree_4 (fun v1 H locs hf h => ?_)
  exact x_irp E h hf dX8_warmestFree_7
set_option maxHeartbeats 4000000 in
set_option maxRecDepth 100000 in
theorem c_X8_girth (l : Launch) (D : va_G) (cy : Nat → ClassId) (s00 : State) (ad : Nat → Nat) (hT : l.stackTraces = false ∧ XDW s00) (hG : XG s00) (S : XS) (p0 : Int32) (E9 : Nat) (r9 : Int32) (S9 : XS) (hf : f_X8_girth S p0 = some (E9, r9, S9)) : XXI l yX8_girth cX8_girth 2 (some .int) 7 1 D cy s00 shCats ad S [.ref (ad 0), .int p0] E9 r9 S9 := by
  refine XXI.of (by decide) [(0, .ref (ad 0)), (1, .int p0)] rfl (Nat.le_of_ble_eq_true rfl) (fun p e s m args below meth c A ls E h hl hex => ?_)
  unfold f_X8_girth at hf
  refine lv_aload_n E.1 E.2.1 dX8_girth_0 rfl (lv_at hl 0 rfl) ?_
  refine lv_iload_n E.1 E.2.1 dX8_girth_1 rfl (lv_at hl 1 rfl) ?_
  refine x_xcallv E h hl hex 0 hf (fun E8 r8 S8 hr => c_X8_needCat l D cy s00 _ hT hG S p0 E8 r8 S8 hr) m_X8_needCat rfl rfl kw1027 rfl rfl (Nat.le_of_ble_eq_true rfl) ⟨by decide, by decide⟩ ⟨Nat.le_of_ble_eq_true rfl, Nat.le_of_ble_eq_true rfl⟩ ⟨Nat.le_of_ble_eq_true rfl, Nat.le_of_ble_eq_true rfl⟩ dX8_girth_2 (fun _ S1 H locs hf h => ?_)
  refine lv_aload_n E.1 E.2.1 dX8_girth_5 rfl (lv_at hl 0 rfl) ?_
  refine x_getr E h 0 0 1 rfl rfl rfl (by decide) xinX8 kw431 dX8_girth_6 ?_
  refine x_getr E h 1 8 7 rfl rfl rfl (by decide) xinX6 kw205 dX8_girth_9 ?_
  refine lv_iload_n E.1 E.2.1 dX8_girth_12 rfl (lv_at hl 1 rfl) ?_
  refine x_iald E h 7 hf rfl dX8_girth_13 (fun v2 hf => ?_)
  exact x_xiret E h hf ⟨Nat.le_of_ble_eq_true rfl, Nat.le_of_ble_eq_true rfl⟩ dX8_girth_14
set_option maxHeartbeats 4000000 in
set_option maxRecDepth 100000 in
theorem c_X8_power (l : Launch) (D : va_G) (cy : Nat → ClassId) (s00 : State) (ad : Nat → Nat) (hT : l.stackTraces = false ∧ XDW s00) (hG : XG s00) (S : XS) (p0 : Int32) (E9 : Nat) (r9 : Int32) (S9 : XS) (hf : f_X8_power S p0 = some (E9, r9, S9)) : XXI l yX8_power cX8_power 2 (some .int) 7 1 D cy s00 shCats ad S [.ref (ad 0), .int p0] E9 r9 S9 := by
  refine XXI.of (by decide) [(0, .ref (ad 0)), (1, .int p0)] rfl (Nat.le_of_ble_eq_true rfl) (fun p e s m args below meth c A ls E h hl hex => ?_)
  unfold f_X8_power at hf
  refine lv_aload_n E.1 E.2.1 dX8_power_0 rfl (lv_at hl 0 rfl) ?_
  refine lv_iload_n E.1 E.2.1 dX8_power_1 rfl (lv_at hl 1 rfl) ?_
  refine x_xcallv E h hl hex 0 hf (fun E8 r8 S8 hr => c_X8_needCat l D cy s00 _ hT hG S p0 E8 r8 S8 hr) m_X8_needCat rfl rfl kw1027 rfl rfl (Nat.le_of_ble_eq_true rfl) ⟨by decide, by decide⟩ ⟨Nat.le_of_ble_eq_true rfl, Nat.le_of_ble_eq_true rfl⟩ ⟨Nat.le_of_ble_eq_true rfl, Nat.le_of_ble_eq_true rfl⟩ dX8_power_2 (fun _ S1 H locs hf h => ?_)
  refine lv_aload_n E.1 E.2.1 dX8_power_5 rfl (lv_at hl 0 rfl) ?_
  refine x_getr E h 0 0 1 rfl rfl rfl (by decide) xinX8 kw431 dX8_power_6 ?_
  refine lv_iload_n E.1 E.2.1 dX8_power_9 rfl (lv_at hl 1 rfl) ?_
  refine x_callop E h hl 1 1 hf (xsub_of rfl) (fun r0 hr => c_X6_might l D cy s00 _ (xs 1 S1) p0 r0 hr) m_X6_might rfl rfl kw1189 rfl rfl (Nat.le_of_ble_eq_true rfl) ⟨by decide, by decide⟩ ⟨Nat.le_of_ble_eq_true rfl, Nat.le_of_ble_eq_true rfl⟩ dX8_power_10 (fun v2 H locs hf h => ?_)
  exact x_xiret E h hf ⟨Nat.le_of_ble_eq_true rfl, Nat.le_of_ble_eq_true rfl⟩ dX8_power_13
set_option maxHeartbeats 4000000 in
set_option maxRecDepth 100000 in
theorem c_X8_fish (l : Launch) (D : va_G) (cy : Nat → ClassId) (s00 : State) (ad : Nat → Nat) (hT : l.stackTraces = false ∧ XDW s00) (hG : XG s00) (S : XS) (p0 : Int32) (E9 : Nat) (r9 : Int32) (S9 : XS) (hf : f_X8_fish S p0 = some (E9, r9, S9)) : XXI l yX8_fish cX8_fish 2 (some .int) 7 1 D cy s00 shCats ad S [.ref (ad 0), .int p0] E9 r9 S9 := by
  refine XXI.of (by decide) [(0, .ref (ad 0)), (1, .int p0)] rfl (Nat.le_of_ble_eq_true rfl) (fun p e s m args below meth c A ls E h hl hex => ?_)
  unfold f_X8_fish at hf
  refine lv_aload_n E.1 E.2.1 dX8_fish_0 rfl (lv_at hl 0 rfl) ?_
  refine lv_iload_n E.1 E.2.1 dX8_fish_1 rfl (lv_at hl 1 rfl) ?_
  refine x_xcallv E h hl hex 0 hf (fun E8 r8 S8 hr => c_X8_needCat l D cy s00 _ hT hG S p0 E8 r8 S8 hr) m_X8_needCat rfl rfl kw1027 rfl rfl (Nat.le_of_ble_eq_true rfl) ⟨by decide, by decide⟩ ⟨Nat.le_of_ble_eq_true rfl, Nat.le_of_ble_eq_true rfl⟩ ⟨Nat.le_of_ble_eq_true rfl, Nat.le_of_ble_eq_true rfl⟩ dX8_fish_2 (fun _ S1 H locs hf h => ?_)
  refine lv_aload_n E.1 E.2.1 dX8_fish_5 rfl (lv_at hl 0 rfl) ?_
  refine x_getr E h 0 0 1 rfl rfl rfl (by decide) xinX8 kw431 dX8_fish_6 ?_
  refine x_getr E h 1 10 9 rfl rfl rfl (by decide) xinX6 kw208 dX8_fish_9 ?_
  refine lv_iload_n E.1 E.2.1 dX8_fish_12 rfl (lv_at hl 1 rfl) ?_
  refine x_iald E h 9 hf rfl dX8_fish_13 (fun v2 hf => ?_)
  exact x_xiret E h hf ⟨Nat.le_of_ble_eq_true rfl, Nat.le_of_ble_eq_true rfl⟩ dX8_fish_14
set_option maxHeartbeats 4000000 in
set_option maxRecDepth 100000 in
theorem c_X8_chimneyOf (l : Launch) (D : va_G) (cy : Nat → ClassId) (s00 : State) (ad : Nat → Nat) (hT : l.stackTraces = false ∧ XDW s00) (hG : XG s00) (S : XS) (p0 : Int32) (E9 : Nat) (r9 : Int32) (S9 : XS) (hf : f_X8_chimneyOf S p0 = some (E9, r9, S9)) : XXI l yX8_chimneyOf cX8_chimneyOf 2 (some .int) 7 1 D cy s00 shCats ad S [.ref (ad 0), .int p0] E9 r9 S9 := by
  refine XXI.of (by decide) [(0, .ref (ad 0)), (1, .int p0)] rfl (Nat.le_of_ble_eq_true rfl) (fun p e s m args below meth c A ls E h hl hex => ?_)
  unfold f_X8_chimneyOf at hf
  refine lv_aload_n E.1 E.2.1 dX8_chimneyOf_0 rfl (lv_at hl 0 rfl) ?_
  refine lv_iload_n E.1 E.2.1 dX8_chimneyOf_1 rfl (lv_at hl 1 rfl) ?_
  refine x_xcallv E h hl hex 0 hf (fun E8 r8 S8 hr => c_X8_needCat l D cy s00 _ hT hG S p0 E8 r8 S8 hr) m_X8_needCat rfl rfl kw1027 rfl rfl (Nat.le_of_ble_eq_true rfl) ⟨by decide, by decide⟩ ⟨Nat.le_of_ble_eq_true rfl, Nat.le_of_ble_eq_true rfl⟩ ⟨Nat.le_of_ble_eq_true rfl, Nat.le_of_ble_eq_true rfl⟩ dX8_chimneyOf_2 (fun _ S1 H locs hf h => ?_)
  refine lv_aload_n E.1 E.2.1 dX8_chimneyOf_5 rfl (lv_at hl 0 rfl) ?_
  refine x_getr E h 0 0 1 rfl rfl rfl (by decide) xinX8 kw431 dX8_chimneyOf_6 ?_
  refine x_getr E h 1 11 10 rfl rfl rfl (by decide) xinX6 kw210 dX8_chimneyOf_9 ?_
  refine lv_iload_n E.1 E.2.1 dX8_chimneyOf_12 rfl (lv_at hl 1 rfl) ?_
  refine x_iald E h 10 hf rfl dX8_chimneyOf_13 (fun v2 hf => ?_)
  exact x_xiret E h hf ⟨Nat.le_of_ble_eq_true rfl, Nat.le_of_ble_eq_true rfl⟩ dX8_chimneyOf_14
set_option maxHeartbeats 4000000 in
set_option maxRecDepth 100000 in
theorem c_X8_ownedChimneys (l : Launch) (D : va_G) (cy : Nat → ClassId) (s00 : State) (ad : Nat → Nat) (hT : l.stackTraces = false ∧ XDW s00) (hG : XG s00) (S : XS) (p0 : Int32) (E9 : Nat) (r9 : Int32) (S9 : XS) (hf : f_X8_ownedChimneys S p0 = some (E9, r9, S9)) : XXI l yX8_ownedChimneys cX8_ownedChimneys 2 (some .int) 7 1 D cy s00 shCats ad S [.ref (ad 0), .int p0] E9 r9 S9 := by
  refine XXI.of (by decide) [(0, .ref (ad 0)), (1, .int p0)] rfl (Nat.le_of_ble_eq_true rfl) (fun p e s m args below meth c A ls E h hl hex => ?_)
  unfold f_X8_ownedChimneys at hf
  refine lv_aload_n E.1 E.2.1 dX8_ownedChimneys_0 rfl (lv_at hl 0 rfl) ?_
  refine lv_iload_n E.1 E.2.1 dX8_ownedChimneys_1 rfl (lv_at hl 1 rfl) ?_
  refine x_xcallv E h hl hex 0 hf (fun E8 r8 S8 hr => c_X8_needCat l D cy s00 _ hT hG S p0 E8 r8 S8 hr) m_X8_needCat rfl rfl kw1027 rfl rfl (Nat.le_of_ble_eq_true rfl) ⟨by decide, by decide⟩ ⟨Nat.le_of_ble_eq_true rfl, Nat.le_of_ble_eq_true rfl⟩ ⟨Nat.le_of_ble_eq_true rfl, Nat.le_of_ble_eq_true rfl⟩ dX8_ownedChimneys_2 (fun _ S1 H locs hf h => ?_)
  refine lv_aload_n E.1 E.2.1 dX8_ownedChimneys_5 rfl (lv_at hl 0 rfl) ?_
  refine x_getr E h 0 0 1 rfl rfl rfl (by decide) xinX8 kw431 dX8_ownedChimneys_6 ?_
  refine lv_iload_n E.1 E.2.1 dX8_ownedChimneys_9 rfl (lv_at hl 1 rfl) ?_
  refine x_callop E h hl 1 1 hf (xsub_of rfl) (fun r0 hr => c_X6_estate l D cy s00 _ (xs 1 S1) p0 r0 hr) m_X6_estate rfl rfl kw1211 rfl rfl (Nat.le_of_ble_eq_true rfl) ⟨by decide, by decide⟩ ⟨Nat.le_of_ble_eq_true rfl, Nat.le_of_ble_eq_true rfl⟩ dX8_ownedChimneys_10 (fun v2 H locs hf h => ?_)
  exact x_xiret E h hf ⟨Nat.le_of_ble_eq_true rfl, Nat.le_of_ble_eq_true rfl⟩ dX8_ownedChimneys_13
set_option maxHeartbeats 4000000 in
set_option maxRecDepth 100000 in
theorem c_X8_truceNights (l : Launch) (D : va_G) (cy : Nat → ClassId) (s00 : State) (ad : Nat → Nat) (hT : l.stackTraces = false ∧ XDW s00) (hG : XG s00) (S : XS) (p0 p1 : Int32) (E9 : Nat) (r9 : Int32) (S9 : XS) (hf : f_X8_truceNights S p0 p1 = some (E9, r9, S9)) : XXI l yX8_truceNights cX8_truceNights 3 (some .int) 7 3 D cy s00 shCats ad S [.ref (ad 0), .int p0, .int p1] E9 r9 S9 := by
  refine XXI.of (by decide) [(0, .ref (ad 0)), (1, .int p0), (2, .int p1)] rfl (Nat.le_of_ble_eq_true rfl) (fun p e s m args below meth c A ls E h hl hex => ?_)
  unfold f_X8_truceNights at hf
  refine lv_aload_n E.1 E.2.1 dX8_truceNights_0 rfl (lv_at hl 0 rfl) ?_
  refine lv_iload_n E.1 E.2.1 dX8_truceNights_1 rfl (lv_at hl 1 rfl) ?_
  refine x_xcallv E h hl hex 0 hf (fun E8 r8 S8 hr => c_X8_needCat l D cy s00 _ hT hG S p0 E8 r8 S8 hr) m_X8_needCat rfl rfl kw1027 rfl rfl (Nat.le_of_ble_eq_true rfl) ⟨by decide, by decide⟩ ⟨Nat.le_of_ble_eq_true rfl, Nat.le_of_ble_eq_true rfl⟩ ⟨Nat.le_of_ble_eq_true rfl, Nat.le_of_ble_eq_true rfl⟩ dX8_truceNights_2 (fun _ S1 H locs hf h => ?_)
  refine lv_aload_n E.1 E.2.1 dX8_truceNights_5 rfl (lv_at hl 0 rfl) ?_
  refine lv_iload_n E.1 E.2.1 dX8_truceNights_6 rfl (lv_at hl 2 rfl) ?_
  refine x_xcallv E h hl hex 0 hf (fun E8 r8 S8 hr => c_X8_needCat l D cy s00 _ hT hG S1 p1 E8 r8 S8 hr) m_X8_needCat rfl rfl kw1027 rfl rfl (Nat.le_of_ble_eq_true rfl) ⟨by decide, by decide⟩ ⟨Nat.le_of_ble_eq_true rfl, Nat.le_of_ble_eq_true rfl⟩ ⟨Nat.le_of_ble_eq_true rfl, Nat.le_of_ble_eq_true rfl⟩ dX8_truceNights_7 (fun _ S2 H locs hf h => ?_)
  refine lv_aload_n E.1 E.2.1 dX8_truceNights_10 rfl (lv_at hl 0 rfl) ?_
  refine lv_iload_n E.1 E.2.1 dX8_truceNights_11 rfl (lv_at hl 1 rfl) ?_
  refine lv_iload_n E.1 E.2.1 dX8_truceNights_12 rfl (lv_at hl 2 rfl) ?_
  refine x_xcallv E h hl hex 0 hf (fun E8 r8 S8 hr => c_X8_needTwo l D cy s00 _ hT hG S2 p0 p1 E8 r8 S8 hr) m_X8_needTwo rfl rfl kw1007 rfl rfl (Nat.le_of_ble_eq_true rfl) ⟨by decide, by decide⟩ ⟨Nat.le_of_ble_eq_true rfl, Nat.le_of_ble_eq_true rfl⟩ ⟨Nat.le_of_ble_eq_true rfl, Nat.le_of_ble_eq_true rfl⟩ dX8_truceNights_13 (fun _ S3 H locs hf h => ?_)
  refine lv_aload_n E.1 E.2.1 dX8_truceNights_16 rfl (lv_at hl 0 rfl) ?_
  refine x_getr E h 0 0 1 rfl rfl rfl (by decide) xinX8 kw431 dX8_truceNights_17 ?_
  refine lv_iload_n E.1 E.2.1 dX8_truceNights_20 rfl (lv_at hl 1 rfl) ?_
  refine lv_iload_n E.1 E.2.1 dX8_truceNights_21 rfl (lv_at hl 2 rfl) ?_
  refine x_callop E h hl 1 1 hf (xsub_of rfl) (fun r0 hr => c_X6_truceLeft l D cy s00 _ (xs 1 S3) p0 p1 r0 hr) m_X6_truceLeft rfl rfl kw1219 rfl rfl (Nat.le_of_ble_eq_true rfl) ⟨by decide, by decide⟩ ⟨Nat.le_of_ble_eq_true rfl, Nat.le_of_ble_eq_true rfl⟩ dX8_truceNights_22 (fun v4 H locs hf h => ?_)
  exact x_xiret E h hf ⟨Nat.le_of_ble_eq_true rfl, Nat.le_of_ble_eq_true rfl⟩ dX8_truceNights_25
set_option maxHeartbeats 4000000 in
set_option maxRecDepth 100000 in
theorem c_X8_reachable (l : Launch) (D : va_G) (cy : Nat → ClassId) (s00 : State) (ad : Nat → Nat) (hT : l.stackTraces = false ∧ XDW s00) (hG : XG s00) (S : XS) (p0 : Int32) (E9 : Nat) (r9 : Int32) (S9 : XS) (hf : f_X8_reachable S p0 = some (E9, r9, S9)) : XXI l yX8_reachable cX8_reachable 2 (some .int) 7 1 D cy s00 shCats ad S [.ref (ad 0), .int p0] E9 r9 S9 := by
  refine XXI.of (by decide) [(0, .ref (ad 0)), (1, .int p0)] rfl (Nat.le_of_ble_eq_true rfl) (fun p e s m args below meth c A ls E h hl hex => ?_)
  unfold f_X8_reachable at hf
  refine lv_aload_n E.1 E.2.1 dX8_reachable_0 rfl (lv_at hl 0 rfl) ?_
  refine lv_iload_n E.1 E.2.1 dX8_reachable_1 rfl (lv_at hl 1 rfl) ?_
  refine x_xcallv E h hl hex 0 hf (fun E8 r8 S8 hr => c_X8_needCat l D cy s00 _ hT hG S p0 E8 r8 S8 hr) m_X8_needCat rfl rfl kw1027 rfl rfl (Nat.le_of_ble_eq_true rfl) ⟨by decide, by decide⟩ ⟨Nat.le_of_ble_eq_true rfl, Nat.le_of_ble_eq_true rfl⟩ ⟨Nat.le_of_ble_eq_true rfl, Nat.le_of_ble_eq_true rfl⟩ dX8_reachable_2 (fun _ S1 H locs hf h => ?_)
  refine lv_aload_n E.1 E.2.1 dX8_reachable_5 rfl (lv_at hl 0 rfl) ?_
  refine x_getr E h 0 0 1 rfl rfl rfl (by decide) xinX8 kw431 dX8_reachable_6 ?_
  refine lv_iload_n E.1 E.2.1 dX8_reachable_9 rfl (lv_at hl 1 rfl) ?_
  refine lv_bipush (v := 10) E.1 E.2.1 dX8_reachable_10 (by decide) ?_
  refine x_callop E h hl 1 1 hf (xsub_of rfl) (fun r0 hr => c_X6_walkable l D cy s00 _ (xs 1 S1) p0 10 r0 hr) m_X6_walkable rfl rfl kw1227 rfl rfl (Nat.le_of_ble_eq_true rfl) ⟨by decide, by decide⟩ ⟨Nat.le_of_ble_eq_true rfl, Nat.le_of_ble_eq_true rfl⟩ dX8_reachable_12 (fun v2 H locs hf h => ?_)
  exact x_xiret E h hf ⟨Nat.le_of_ble_eq_true rfl, Nat.le_of_ble_eq_true rfl⟩ dX8_reachable_15
set_option maxHeartbeats 4000000 in
set_option maxRecDepth 100000 in
theorem c_X8_stepsTo (l : Launch) (D : va_G) (cy : Nat → ClassId) (s00 : State) (ad : Nat → Nat) (hT : l.stackTraces = false ∧ XDW s00) (hG : XG s00) (S : XS) (p0 p1 : Int32) (E9 : Nat) (r9 : Int32) (S9 : XS) (hf : f_X8_stepsTo S p0 p1 = some (E9, r9, S9)) : XXI l yX8_stepsTo cX8_stepsTo 3 (some .int) 7 2 D cy s00 shCats ad S [.ref (ad 0), .int p0, .int p1] E9 r9 S9 := by
  refine XXI.of (by decide) [(0, .ref (ad 0)), (1, .int p0), (2, .int p1)] rfl (Nat.le_of_ble_eq_true rfl) (fun p e s m args below meth c A ls E h hl hex => ?_)
  unfold f_X8_stepsTo at hf
  refine lv_aload_n E.1 E.2.1 dX8_stepsTo_0 rfl (lv_at hl 0 rfl) ?_
  refine lv_iload_n E.1 E.2.1 dX8_stepsTo_1 rfl (lv_at hl 1 rfl) ?_
  refine x_xcallv E h hl hex 0 hf (fun E8 r8 S8 hr => c_X8_needCat l D cy s00 _ hT hG S p0 E8 r8 S8 hr) m_X8_needCat rfl rfl kw1027 rfl rfl (Nat.le_of_ble_eq_true rfl) ⟨by decide, by decide⟩ ⟨Nat.le_of_ble_eq_true rfl, Nat.le_of_ble_eq_true rfl⟩ ⟨Nat.le_of_ble_eq_true rfl, Nat.le_of_ble_eq_true rfl⟩ dX8_stepsTo_2 (fun _ S1 H locs hf h => ?_)
  refine lv_aload_n E.1 E.2.1 dX8_stepsTo_5 rfl (lv_at hl 0 rfl) ?_
  refine lv_iload_n E.1 E.2.1 dX8_stepsTo_6 rfl (lv_at hl 2 rfl) ?_
  refine x_xcallv E h hl hex 0 hf (fun E8 r8 S8 hr => c_X8_needChimney l D cy s00 _ hT hG S1 p1 E8 r8 S8 hr) m_X8_needChimney rfl rfl kw986 rfl rfl (Nat.le_of_ble_eq_true rfl) ⟨by decide, by decide⟩ ⟨Nat.le_of_ble_eq_true rfl, Nat.le_of_ble_eq_true rfl⟩ ⟨Nat.le_of_ble_eq_true rfl, Nat.le_of_ble_eq_true rfl⟩ dX8_stepsTo_7 (fun _ S2 H locs hf h => ?_)
  refine lv_aload_n E.1 E.2.1 dX8_stepsTo_10 rfl (lv_at hl 0 rfl) ?_
  refine x_getr E h 0 0 1 rfl rfl rfl (by decide) xinX8 kw431 dX8_stepsTo_11 ?_
  refine lv_iload_n E.1 E.2.1 dX8_stepsTo_14 rfl (lv_at hl 1 rfl) ?_
  refine lv_iload_n E.1 E.2.1 dX8_stepsTo_15 rfl (lv_at hl 2 rfl) ?_
  refine x_callop E h hl 1 1 hf (xsub_of rfl) (fun r0 hr => c_X6_fewestSteps l D cy s00 _ (xs 1 S2) p0 p1 r0 hr) m_X6_fewestSteps rfl rfl kw1238 rfl rfl (Nat.le_of_ble_eq_true rfl) ⟨by decide, by decide⟩ ⟨Nat.le_of_ble_eq_true rfl, Nat.le_of_ble_eq_true rfl⟩ dX8_stepsTo_16 (fun v3 H locs hf h => ?_)
  exact x_xiret E h hf ⟨Nat.le_of_ble_eq_true rfl, Nat.le_of_ble_eq_true rfl⟩ dX8_stepsTo_19
set_option maxHeartbeats 4000000 in
set_option maxRecDepth 100000 in
theorem w_X8_openGutters_L9 {p : Program} {l : Launch} {e : Env} {s : State} {m : MethodId} {args : Array Value} {below : List Frame} {meth : Method} {c : Code} {D : va_G} {cy : Nat → ClassId} {s00 : State} {ad : Nat → Nat} {A : Nat → Prop} (hT : l.stackTraces = false ∧ XDW s00) (hG : XG s00) {E9 : Nat} {r9 : Int32} {S9 : XS} {u1 : Int32} {S : XS} {K : Int32 → Int32 → Option (Nat × Int32 × XS)} (E : XE p s m args meth c cX8_openGutters 4 RX8 (some .int) D cy s00) (hk : ∀ (m2 m3 : Int32) (H : Heap) (locs : List Loc) (ls : Array Slot), K m2 m3 = some (E9, r9, S9) → XH D cy s00 shCats ad S A s H locs → lv_has ls 4 [(0, .ref (ad 0)), (1, .int u1), (2, .int m2), (3, .int m3)] → W p l e (xrx 7 1) s m args below meth c H locs (0 + 1) (0 + 6 * 1) (vx_MQ below (xqxi D cy shCats ad E9 r9 S9 A) (xXC D cy shCats ad E9 S9 A) args s 1 (6 * 1) A) (F0 m 44 ls [])) :
    ∀ (n : Nat) (m2 m3 : Int32) (H : Heap) (locs : List Loc) (ls : Array Slot), f_X8_openGutters_L9 K S u1 n m2 m3 = some (E9, r9, S9) → XH D cy s00 shCats ad S A s H locs → lv_has ls 4 [(0, .ref (ad 0)), (1, .int u1), (2, .int m2), (3, .int m3)] → W p l e (xrx 7 1) s m args below meth c H locs (0 + 1) (0 + 6 * 1) (vx_MQ below (xqxi D cy shCats ad E9 r9 S9 A) (xXC D cy shCats ad E9 S9 A) args s 1 (6 * 1) A) (F0 m 9 ls []) := by
  intro n
  induction n with
  | zero => intro m2 m3 H locs ls hf; cases hf
  | succ n ih =>
    intro m2 m3 H locs ls hf h hl
    rw [f_X8_openGutters_L9] at hf
    refine lv_iload_n E.1 E.2.1 dX8_openGutters_9 rfl (lv_at hl 3 rfl) ?_
    refine lv_aload_n E.1 E.2.1 dX8_openGutters_10 rfl (lv_at hl 0 rfl) ?_
    refine x_getr E h 0 0 1 rfl rfl rfl (by decide) xinX8 kw431 dX8_openGutters_11 ?_
    refine x_get E h 1 3 rfl rfl rfl (by decide) xinX6 kw194 dX8_openGutters_14 ?_
    refine x_br hf (lv_icmp_ge (tgt := 44) E.1 E.2.1 dX8_openGutters_17 (by decide)) (fun hf => ?_) (fun hf => ?_)
    · exact hk _ _ _ _ _ hf h (lv_sub hl [0, 1, 2, 3] rfl)
    · refine lv_aload_n E.1 E.2.1 dX8_openGutters_20 rfl (lv_at hl 0 rfl) ?_
      refine x_getr E h 0 0 1 rfl rfl rfl (by decide) xinX8 kw431 dX8_openGutters_21 ?_
      refine lv_iload_n E.1 E.2.1 dX8_openGutters_24 rfl (lv_at hl 1 rfl) ?_
      refine lv_iload_n E.1 E.2.1 dX8_openGutters_25 rfl (lv_at hl 3 rfl) ?_
      refine x_callop E h hl 1 1 hf (xsub_of rfl) (fun r0 hr => c_X6_stepRefusal l D cy s00 _ (xs 1 S) u1 m3 r0 hr) m_X6_stepRefusal rfl rfl kw1039 rfl rfl (Nat.le_of_ble_eq_true rfl) ⟨by decide, by decide⟩ ⟨Nat.le_of_ble_eq_true rfl, Nat.le_of_ble_eq_true rfl⟩ dX8_openGutters_26 (fun v2 H locs hf h => ?_)
      refine x_brn hf (lv_if_ne (tgt := 38) E.1 E.2.1 dX8_openGutters_29 (by decide)) (fun hf => ?_) (fun hf => ?_)
      · refine x_nv hf (fun v3 e9 hf => ?_)
        refine lv_iinc (v := v3) (lv' := [(3, .int v3), (0, .ref (ad 0)), (1, .int u1), (2, .int m2)]) E.1 E.2.1 dX8_openGutters_38 hl (k := 3) rfl (by rw [e9]; rfl) (by decide) rfl (fun ls hl => ?_)
        refine lv_goto (tgt := 9) E.1 E.2.1 dX8_openGutters_41 (by decide) ?_
        exact ih _ _ _ _ _ hf h (lv_sub hl [1, 2, 3, 0] rfl)
      · refine lv_iload_n E.1 E.2.1 dX8_openGutters_32 rfl (lv_at hl 2 rfl) ?_
        refine lv_iconst (v := 1) E.1 E.2.1 dX8_openGutters_33 (by decide) ?_
        refine lv_iload_n E.1 E.2.1 dX8_openGutters_34 rfl (lv_at hl 3 rfl) ?_
        refine lv_ishl E.1 E.2.1 dX8_openGutters_35 ?_
        refine lv_ior E.1 E.2.1 dX8_openGutters_36 ?_
        refine x_nm hf (fun v4 hf => ?_)
        refine lv_istore_n (lv' := [(2, .int v4), (0, .ref (ad 0)), (1, .int u1), (3, .int m3)]) E.1 E.2.1 dX8_openGutters_37 rfl hl (by decide) rfl (fun ls hl => ?_)
        refine x_nv hf (fun v5 e9 hf => ?_)
        refine lv_iinc (v := v5) (lv' := [(3, .int v5), (2, .int v4), (0, .ref (ad 0)), (1, .int u1)]) E.1 E.2.1 dX8_openGutters_38 hl (k := 3) rfl (by rw [e9]; rfl) (by decide) rfl (fun ls hl => ?_)
        refine lv_goto (tgt := 9) E.1 E.2.1 dX8_openGutters_41 (by decide) ?_
        exact ih _ _ _ _ _ hf h (lv_sub hl [2, 3, 1, 0] rfl)
set_option maxHeartbeats 4000000 in
set_option maxRecDepth 100000 in
theorem c_X8_openGutters (l : Launch) (D : va_G) (cy : Nat → ClassId) (s00 : State) (ad : Nat → Nat) (hT : l.stackTraces = false ∧ XDW s00) (hG : XG s00) (S : XS) (p0 : Int32) (E9 : Nat) (r9 : Int32) (S9 : XS) (hf : f_X8_openGutters S p0 = some (E9, r9, S9)) : XXI l yX8_openGutters cX8_openGutters 4 (some .int) 7 1 D cy s00 shCats ad S [.ref (ad 0), .int p0] E9 r9 S9 := by
  refine XXI.of (by decide) [(0, .ref (ad 0)), (1, .int p0)] rfl (Nat.le_of_ble_eq_true rfl) (fun p e s m args below meth c A ls E h hl hex => ?_)
  unfold f_X8_openGutters at hf
  refine lv_aload_n E.1 E.2.1 dX8_openGutters_0 rfl (lv_at hl 0 rfl) ?_
  refine lv_iload_n E.1 E.2.1 dX8_openGutters_1 rfl (lv_at hl 1 rfl) ?_
  refine x_xcallv E h hl hex 0 hf (fun E8 r8 S8 hr => c_X8_needCat l D cy s00 _ hT hG S p0 E8 r8 S8 hr) m_X8_needCat rfl rfl kw1027 rfl rfl (Nat.le_of_ble_eq_true rfl) ⟨by decide, by decide⟩ ⟨Nat.le_of_ble_eq_true rfl, Nat.le_of_ble_eq_true rfl⟩ ⟨Nat.le_of_ble_eq_true rfl, Nat.le_of_ble_eq_true rfl⟩ dX8_openGutters_2 (fun _ S1 H locs hf h => ?_)
  refine lv_iconst (v := 0) E.1 E.2.1 dX8_openGutters_5 (by decide) ?_
  refine lv_istore_n (lv' := [(2, .int 0), (0, .ref (ad 0)), (1, .int p0)]) E.1 E.2.1 dX8_openGutters_6 rfl hl (by decide) rfl (fun ls hl => ?_)
  refine lv_iconst (v := 0) E.1 E.2.1 dX8_openGutters_7 (by decide) ?_
  refine lv_istore_n (lv' := [(3, .int 0), (2, .int 0), (0, .ref (ad 0)), (1, .int p0)]) E.1 E.2.1 dX8_openGutters_8 rfl hl (by decide) rfl (fun ls hl => ?_)
  refine w_X8_openGutters_L9 hT hG E ?_ _ _ _ _ _ _ hf h (lv_sub hl [2, 3, 1, 0] rfl)
  intro v6 v7 H locs ls hf h hl
  refine lv_iload_n E.1 E.2.1 dX8_openGutters_44 rfl (lv_at hl 2 rfl) ?_
  exact x_xiret E h hf ⟨Nat.le_of_ble_eq_true rfl, Nat.le_of_ble_eq_true rfl⟩ dX8_openGutters_45
set_option maxHeartbeats 4000000 in
set_option maxRecDepth 100000 in
theorem c_X8_whyNoStep (l : Launch) (D : va_G) (cy : Nat → ClassId) (s00 : State) (ad : Nat → Nat) (hT : l.stackTraces = false ∧ XDW s00) (hG : XG s00) (S : XS) (p0 p1 : Int32) (E9 : Nat) (r9 : Int32) (S9 : XS) (hf : f_X8_whyNoStep S p0 p1 = some (E9, r9, S9)) : XXI l yX8_whyNoStep cX8_whyNoStep 3 (some .int) 7 2 D cy s00 shCats ad S [.ref (ad 0), .int p0, .int p1] E9 r9 S9 := by
  refine XXI.of (by decide) [(0, .ref (ad 0)), (1, .int p0), (2, .int p1)] rfl (Nat.le_of_ble_eq_true rfl) (fun p e s m args below meth c A ls E h hl hex => ?_)
  unfold f_X8_whyNoStep at hf
  refine lv_aload_n E.1 E.2.1 dX8_whyNoStep_0 rfl (lv_at hl 0 rfl) ?_
  refine lv_iload_n E.1 E.2.1 dX8_whyNoStep_1 rfl (lv_at hl 1 rfl) ?_
  refine x_xcallv E h hl hex 0 hf (fun E8 r8 S8 hr => c_X8_needCat l D cy s00 _ hT hG S p0 E8 r8 S8 hr) m_X8_needCat rfl rfl kw1027 rfl rfl (Nat.le_of_ble_eq_true rfl) ⟨by decide, by decide⟩ ⟨Nat.le_of_ble_eq_true rfl, Nat.le_of_ble_eq_true rfl⟩ ⟨Nat.le_of_ble_eq_true rfl, Nat.le_of_ble_eq_true rfl⟩ dX8_whyNoStep_2 (fun _ S1 H locs hf h => ?_)
  refine lv_aload_n E.1 E.2.1 dX8_whyNoStep_5 rfl (lv_at hl 0 rfl) ?_
  refine lv_iload_n E.1 E.2.1 dX8_whyNoStep_6 rfl (lv_at hl 2 rfl) ?_
  refine x_xcallv E h hl hex 0 hf (fun E8 r8 S8 hr => c_X8_needGutter l D cy s00 _ hT hG S1 p1 E8 r8 S8 hr) m_X8_needGutter rfl rfl kw1033 rfl rfl (Nat.le_of_ble_eq_true rfl) ⟨by decide, by decide⟩ ⟨Nat.le_of_ble_eq_true rfl, Nat.le_of_ble_eq_true rfl⟩ ⟨Nat.le_of_ble_eq_true rfl, Nat.le_of_ble_eq_true rfl⟩ dX8_whyNoStep_7 (fun _ S2 H locs hf h => ?_)
  refine lv_aload_n E.1 E.2.1 dX8_whyNoStep_10 rfl (lv_at hl 0 rfl) ?_
  refine x_getr E h 0 0 1 rfl rfl rfl (by decide) xinX8 kw431 dX8_whyNoStep_11 ?_
  refine lv_iload_n E.1 E.2.1 dX8_whyNoStep_14 rfl (lv_at hl 1 rfl) ?_
  refine lv_iload_n E.1 E.2.1 dX8_whyNoStep_15 rfl (lv_at hl 2 rfl) ?_
  refine x_callop E h hl 1 1 hf (xsub_of rfl) (fun r0 hr => c_X6_stepRefusal l D cy s00 _ (xs 1 S2) p0 p1 r0 hr) m_X6_stepRefusal rfl rfl kw1039 rfl rfl (Nat.le_of_ble_eq_true rfl) ⟨by decide, by decide⟩ ⟨Nat.le_of_ble_eq_true rfl, Nat.le_of_ble_eq_true rfl⟩ dX8_whyNoStep_16 (fun v3 H locs hf h => ?_)
  exact x_xiret E h hf ⟨Nat.le_of_ble_eq_true rfl, Nat.le_of_ble_eq_true rfl⟩ dX8_whyNoStep_19
set_option maxHeartbeats 4000000 in
set_option maxRecDepth 100000 in
theorem c_X8_whyNoClaim (l : Launch) (D : va_G) (cy : Nat → ClassId) (s00 : State) (ad : Nat → Nat) (hT : l.stackTraces = false ∧ XDW s00) (hG : XG s00) (S : XS) (p0 : Int32) (E9 : Nat) (r9 : Int32) (S9 : XS) (hf : f_X8_whyNoClaim S p0 = some (E9, r9, S9)) : XXI l yX8_whyNoClaim cX8_whyNoClaim 2 (some .int) 7 1 D cy s00 shCats ad S [.ref (ad 0), .int p0] E9 r9 S9 := by
  refine XXI.of (by decide) [(0, .ref (ad 0)), (1, .int p0)] rfl (Nat.le_of_ble_eq_true rfl) (fun p e s m args below meth c A ls E h hl hex => ?_)
  unfold f_X8_whyNoClaim at hf
  refine lv_aload_n E.1 E.2.1 dX8_whyNoClaim_0 rfl (lv_at hl 0 rfl) ?_
  refine lv_iload_n E.1 E.2.1 dX8_whyNoClaim_1 rfl (lv_at hl 1 rfl) ?_
  refine x_xcallv E h hl hex 0 hf (fun E8 r8 S8 hr => c_X8_needCat l D cy s00 _ hT hG S p0 E8 r8 S8 hr) m_X8_needCat rfl rfl kw1027 rfl rfl (Nat.le_of_ble_eq_true rfl) ⟨by decide, by decide⟩ ⟨Nat.le_of_ble_eq_true rfl, Nat.le_of_ble_eq_true rfl⟩ ⟨Nat.le_of_ble_eq_true rfl, Nat.le_of_ble_eq_true rfl⟩ dX8_whyNoClaim_2 (fun _ S1 H locs hf h => ?_)
  refine lv_aload_n E.1 E.2.1 dX8_whyNoClaim_5 rfl (lv_at hl 0 rfl) ?_
  refine x_getr E h 0 0 1 rfl rfl rfl (by decide) xinX8 kw431 dX8_whyNoClaim_6 ?_
  refine lv_iload_n E.1 E.2.1 dX8_whyNoClaim_9 rfl (lv_at hl 1 rfl) ?_
  refine x_callop E h hl 1 1 hf (xsub_of rfl) (fun r0 hr => c_X6_claimRefusal l D cy s00 _ (xs 1 S1) p0 r0 hr) m_X6_claimRefusal rfl rfl kw1048 rfl rfl (Nat.le_of_ble_eq_true rfl) ⟨by decide, by decide⟩ ⟨Nat.le_of_ble_eq_true rfl, Nat.le_of_ble_eq_true rfl⟩ dX8_whyNoClaim_10 (fun v2 H locs hf h => ?_)
  exact x_xiret E h hf ⟨Nat.le_of_ble_eq_true rfl, Nat.le_of_ble_eq_true rfl⟩ dX8_whyNoClaim_13
set_option maxHeartbeats 4000000 in
set_option maxRecDepth 100000 in
theorem c_X8_whyNoChase (l : Launch) (D : va_G) (cy : Nat → ClassId) (s00 : State) (ad : Nat → Nat) (hT : l.stackTraces = false ∧ XDW s00) (hG : XG s00) (S : XS) (p0 p1 : Int32) (E9 : Nat) (r9 : Int32) (S9 : XS) (hf : f_X8_whyNoChase S p0 p1 = some (E9, r9, S9)) : XXI l yX8_whyNoChase cX8_whyNoChase 3 (some .int) 7 3 D cy s00 shCats ad S [.ref (ad 0), .int p0, .int p1] E9 r9 S9 := by
  refine XXI.of (by decide) [(0, .ref (ad 0)), (1, .int p0), (2, .int p1)] rfl (Nat.le_of_ble_eq_true rfl) (fun p e s m args below meth c A ls E h hl hex => ?_)
  unfold f_X8_whyNoChase at hf
  refine lv_aload_n E.1 E.2.1 dX8_whyNoChase_0 rfl (lv_at hl 0 rfl) ?_
  refine lv_iload_n E.1 E.2.1 dX8_whyNoChase_1 rfl (lv_at hl 1 rfl) ?_
  refine x_xcallv E h hl hex 0 hf (fun E8 r8 S8 hr => c_X8_needCat l D cy s00 _ hT hG S p0 E8 r8 S8 hr) m_X8_needCat rfl rfl kw1027 rfl rfl (Nat.le_of_ble_eq_true rfl) ⟨by decide, by decide⟩ ⟨Nat.le_of_ble_eq_true rfl, Nat.le_of_ble_eq_true rfl⟩ ⟨Nat.le_of_ble_eq_true rfl, Nat.le_of_ble_eq_true rfl⟩ dX8_whyNoChase_2 (fun _ S1 H locs hf h => ?_)
  refine lv_aload_n E.1 E.2.1 dX8_whyNoChase_5 rfl (lv_at hl 0 rfl) ?_
  refine lv_iload_n E.1 E.2.1 dX8_whyNoChase_6 rfl (lv_at hl 2 rfl) ?_
  refine x_xcallv E h hl hex 0 hf (fun E8 r8 S8 hr => c_X8_needCat l D cy s00 _ hT hG S1 p1 E8 r8 S8 hr) m_X8_needCat rfl rfl kw1027 rfl rfl (Nat.le_of_ble_eq_true rfl) ⟨by decide, by decide⟩ ⟨Nat.le_of_ble_eq_true rfl, Nat.le_of_ble_eq_true rfl⟩ ⟨Nat.le_of_ble_eq_true rfl, Nat.le_of_ble_eq_true rfl⟩ dX8_whyNoChase_7 (fun _ S2 H locs hf h => ?_)
  refine lv_aload_n E.1 E.2.1 dX8_whyNoChase_10 rfl (lv_at hl 0 rfl) ?_
  refine lv_iload_n E.1 E.2.1 dX8_whyNoChase_11 rfl (lv_at hl 1 rfl) ?_
  refine lv_iload_n E.1 E.2.1 dX8_whyNoChase_12 rfl (lv_at hl 2 rfl) ?_
  refine x_xcallv E h hl hex 0 hf (fun E8 r8 S8 hr => c_X8_needTwo l D cy s00 _ hT hG S2 p0 p1 E8 r8 S8 hr) m_X8_needTwo rfl rfl kw1007 rfl rfl (Nat.le_of_ble_eq_true rfl) ⟨by decide, by decide⟩ ⟨Nat.le_of_ble_eq_true rfl, Nat.le_of_ble_eq_true rfl⟩ ⟨Nat.le_of_ble_eq_true rfl, Nat.le_of_ble_eq_true rfl⟩ dX8_whyNoChase_13 (fun _ S3 H locs hf h => ?_)
  refine lv_aload_n E.1 E.2.1 dX8_whyNoChase_16 rfl (lv_at hl 0 rfl) ?_
  refine x_getr E h 0 0 1 rfl rfl rfl (by decide) xinX8 kw431 dX8_whyNoChase_17 ?_
  refine lv_iload_n E.1 E.2.1 dX8_whyNoChase_20 rfl (lv_at hl 1 rfl) ?_
  refine lv_iload_n E.1 E.2.1 dX8_whyNoChase_21 rfl (lv_at hl 2 rfl) ?_
  refine x_callop E h hl 1 1 hf (xsub_of rfl) (fun r0 hr => c_X6_chaseRefusal l D cy s00 _ (xs 1 S3) p0 p1 r0 hr) m_X6_chaseRefusal rfl rfl kw1064 rfl rfl (Nat.le_of_ble_eq_true rfl) ⟨by decide, by decide⟩ ⟨Nat.le_of_ble_eq_true rfl, Nat.le_of_ble_eq_true rfl⟩ dX8_whyNoChase_22 (fun v4 H locs hf h => ?_)
  exact x_xiret E h hf ⟨Nat.le_of_ble_eq_true rfl, Nat.le_of_ble_eq_true rfl⟩ dX8_whyNoChase_25
set_option maxHeartbeats 4000000 in
set_option maxRecDepth 100000 in
theorem w_X8_preyOf_L9 {p : Program} {l : Launch} {e : Env} {s : State} {m : MethodId} {args : Array Value} {below : List Frame} {meth : Method} {c : Code} {D : va_G} {cy : Nat → ClassId} {s00 : State} {ad : Nat → Nat} {A : Nat → Prop} (hT : l.stackTraces = false ∧ XDW s00) (hG : XG s00) {E9 : Nat} {r9 : Int32} {S9 : XS} {u1 : Int32} {S : XS} {K : Int32 → Int32 → Option (Nat × Int32 × XS)} (E : XE p s m args meth c cX8_preyOf 4 RX8 (some .int) D cy s00) (hk : ∀ (m2 m3 : Int32) (H : Heap) (locs : List Loc) (ls : Array Slot), K m2 m3 = some (E9, r9, S9) → XH D cy s00 shCats ad S A s H locs → lv_has ls 4 [(0, .ref (ad 0)), (1, .int u1), (2, .int m2), (3, .int m3)] → W p l e (xrx 7 1) s m args below meth c H locs (0 + 1) (0 + 6 * 1) (vx_MQ below (xqxi D cy shCats ad E9 r9 S9 A) (xXC D cy shCats ad E9 S9 A) args s 1 (6 * 1) A) (F0 m 49 ls [])) :
    ∀ (n : Nat) (m2 m3 : Int32) (H : Heap) (locs : List Loc) (ls : Array Slot), f_X8_preyOf_L9 K S u1 n m2 m3 = some (E9, r9, S9) → XH D cy s00 shCats ad S A s H locs → lv_has ls 4 [(0, .ref (ad 0)), (1, .int u1), (2, .int m2), (3, .int m3)] → W p l e (xrx 7 1) s m args below meth c H locs (0 + 1) (0 + 6 * 1) (vx_MQ below (xqxi D cy shCats ad E9 r9 S9 A) (xXC D cy shCats ad E9 S9 A) args s 1 (6 * 1) A) (F0 m 9 ls []) := by
  intro n
  induction n with
  | zero => intro m2 m3 H locs ls hf; cases hf
  | succ n ih =>
    intro m2 m3 H locs ls hf h hl
    rw [f_X8_preyOf_L9] at hf
    refine lv_iload_n E.1 E.2.1 dX8_preyOf_9 rfl (lv_at hl 3 rfl) ?_
    refine lv_aload_n E.1 E.2.1 dX8_preyOf_10 rfl (lv_at hl 0 rfl) ?_
    refine x_getr E h 0 0 1 rfl rfl rfl (by decide) xinX8 kw431 dX8_preyOf_11 ?_
    refine x_get E h 1 7 rfl rfl rfl (by decide) xinX6 kw203 dX8_preyOf_14 ?_
    refine x_br hf (lv_icmp_ge (tgt := 49) E.1 E.2.1 dX8_preyOf_17 (by decide)) (fun hf => ?_) (fun hf => ?_)
    · exact hk _ _ _ _ _ hf h (lv_sub hl [0, 1, 2, 3] rfl)
    · refine lv_iload_n E.1 E.2.1 dX8_preyOf_20 rfl (lv_at hl 3 rfl) ?_
      refine lv_iload_n E.1 E.2.1 dX8_preyOf_21 rfl (lv_at hl 1 rfl) ?_
      refine x_br hf (lv_icmp_eq (tgt := 43) E.1 E.2.1 dX8_preyOf_22 (by decide)) (fun hf => ?_) (fun hf => ?_)
      · refine x_nv hf (fun v2 e9 hf => ?_)
        refine lv_iinc (v := v2) (lv' := [(3, .int v2), (0, .ref (ad 0)), (1, .int u1), (2, .int m2)]) E.1 E.2.1 dX8_preyOf_43 hl (k := 3) rfl (by rw [e9]; rfl) (by decide) rfl (fun ls hl => ?_)
        refine lv_goto (tgt := 9) E.1 E.2.1 dX8_preyOf_46 (by decide) ?_
        exact ih _ _ _ _ _ hf h (lv_sub hl [1, 2, 3, 0] rfl)
      · refine lv_aload_n E.1 E.2.1 dX8_preyOf_25 rfl (lv_at hl 0 rfl) ?_
        refine x_getr E h 0 0 1 rfl rfl rfl (by decide) xinX8 kw431 dX8_preyOf_26 ?_
        refine lv_iload_n E.1 E.2.1 dX8_preyOf_29 rfl (lv_at hl 1 rfl) ?_
        refine lv_iload_n E.1 E.2.1 dX8_preyOf_30 rfl (lv_at hl 3 rfl) ?_
        refine x_callop E h hl 1 1 hf (xsub_of rfl) (fun r0 hr => c_X6_chaseRefusal l D cy s00 _ (xs 1 S) u1 m3 r0 hr) m_X6_chaseRefusal rfl rfl kw1064 rfl rfl (Nat.le_of_ble_eq_true rfl) ⟨by decide, by decide⟩ ⟨Nat.le_of_ble_eq_true rfl, Nat.le_of_ble_eq_true rfl⟩ dX8_preyOf_31 (fun v3 H locs hf h => ?_)
        refine x_brn hf (lv_if_ne (tgt := 43) E.1 E.2.1 dX8_preyOf_34 (by decide)) (fun hf => ?_) (fun hf => ?_)
        · refine x_nv hf (fun v4 e9 hf => ?_)
          refine lv_iinc (v := v4) (lv' := [(3, .int v4), (0, .ref (ad 0)), (1, .int u1), (2, .int m2)]) E.1 E.2.1 dX8_preyOf_43 hl (k := 3) rfl (by rw [e9]; rfl) (by decide) rfl (fun ls hl => ?_)
          refine lv_goto (tgt := 9) E.1 E.2.1 dX8_preyOf_46 (by decide) ?_
          exact ih _ _ _ _ _ hf h (lv_sub hl [1, 2, 3, 0] rfl)
        · refine lv_iload_n E.1 E.2.1 dX8_preyOf_37 rfl (lv_at hl 2 rfl) ?_
          refine lv_iconst (v := 1) E.1 E.2.1 dX8_preyOf_38 (by decide) ?_
          refine lv_iload_n E.1 E.2.1 dX8_preyOf_39 rfl (lv_at hl 3 rfl) ?_
          refine lv_ishl E.1 E.2.1 dX8_preyOf_40 ?_
          refine lv_ior E.1 E.2.1 dX8_preyOf_41 ?_
          refine x_nm hf (fun v5 hf => ?_)
          refine lv_istore_n (lv' := [(2, .int v5), (0, .ref (ad 0)), (1, .int u1), (3, .int m3)]) E.1 E.2.1 dX8_preyOf_42 rfl hl (by decide) rfl (fun ls hl => ?_)
          refine x_nv hf (fun v6 e9 hf => ?_)
          refine lv_iinc (v := v6) (lv' := [(3, .int v6), (2, .int v5), (0, .ref (ad 0)), (1, .int u1)]) E.1 E.2.1 dX8_preyOf_43 hl (k := 3) rfl (by rw [e9]; rfl) (by decide) rfl (fun ls hl => ?_)
          refine lv_goto (tgt := 9) E.1 E.2.1 dX8_preyOf_46 (by decide) ?_
          exact ih _ _ _ _ _ hf h (lv_sub hl [2, 3, 1, 0] rfl)
set_option maxHeartbeats 4000000 in
set_option maxRecDepth 100000 in
theorem c_X8_preyOf (l : Launch) (D : va_G) (cy : Nat → ClassId) (s00 : State) (ad : Nat → Nat) (hT : l.stackTraces = false ∧ XDW s00) (hG : XG s00) (S : XS) (p0 : Int32) (E9 : Nat) (r9 : Int32) (S9 : XS) (hf : f_X8_preyOf S p0 = some (E9, r9, S9)) : XXI l yX8_preyOf cX8_preyOf 4 (some .int) 7 1 D cy s00 shCats ad S [.ref (ad 0), .int p0] E9 r9 S9 := by
  refine XXI.of (by decide) [(0, .ref (ad 0)), (1, .int p0)] rfl (Nat.le_of_ble_eq_true rfl) (fun p e s m args below meth c A ls E h hl hex => ?_)
  unfold f_X8_preyOf at hf
  refine lv_aload_n E.1 E.2.1 dX8_preyOf_0 rfl (lv_at hl 0 rfl) ?_
  refine lv_iload_n E.1 E.2.1 dX8_preyOf_1 rfl (lv_at hl 1 rfl) ?_
  refine x_xcallv E h hl hex 0 hf (fun E8 r8 S8 hr => c_X8_needCat l D cy s00 _ hT hG S p0 E8 r8 S8 hr) m_X8_needCat rfl rfl kw1027 rfl rfl (Nat.le_of_ble_eq_true rfl) ⟨by decide, by decide⟩ ⟨Nat.le_of_ble_eq_true rfl, Nat.le_of_ble_eq_true rfl⟩ ⟨Nat.le_of_ble_eq_true rfl, Nat.le_of_ble_eq_true rfl⟩ dX8_preyOf_2 (fun _ S1 H locs hf h => ?_)
  refine lv_iconst (v := 0) E.1 E.2.1 dX8_preyOf_5 (by decide) ?_
  refine lv_istore_n (lv' := [(2, .int 0), (0, .ref (ad 0)), (1, .int p0)]) E.1 E.2.1 dX8_preyOf_6 rfl hl (by decide) rfl (fun ls hl => ?_)
  refine lv_iconst (v := 0) E.1 E.2.1 dX8_preyOf_7 (by decide) ?_
  refine lv_istore_n (lv' := [(3, .int 0), (2, .int 0), (0, .ref (ad 0)), (1, .int p0)]) E.1 E.2.1 dX8_preyOf_8 rfl hl (by decide) rfl (fun ls hl => ?_)
  refine w_X8_preyOf_L9 hT hG E ?_ _ _ _ _ _ _ hf h (lv_sub hl [2, 3, 1, 0] rfl)
  intro v7 v8 H locs ls hf h hl
  refine lv_iload_n E.1 E.2.1 dX8_preyOf_49 rfl (lv_at hl 2 rfl) ?_
  exact x_xiret E h hf ⟨Nat.le_of_ble_eq_true rfl, Nat.le_of_ble_eq_true rfl⟩ dX8_preyOf_50
set_option maxHeartbeats 4000000 in
set_option maxRecDepth 100000 in
theorem c_X8_isKittenWaiting (l : Launch) (D : va_G) (cy : Nat → ClassId) (s00 : State) (ad : Nat → Nat) (S : XS) (r9 : Int32) (hf : f_X8_isKittenWaiting S = some r9) : XI l yX8_isKittenWaiting cX8_isKittenWaiting 1 (some .boolean) 0 D cy s00 shCats ad S [.ref (ad 0)] r9 S := by
  refine XI.of (by decide) [(0, .ref (ad 0))] rfl (Nat.le_of_ble_eq_true rfl) (fun p e s m args below meth c A ls E h hl => ?_)
  unfold f_X8_isKittenWaiting at hf
  refine lv_aload_n E.1 E.2.1 dX8_isKittenWaiting_0 rfl (lv_at hl 0 rfl) ?_
  refine x_getr E h 0 0 1 rfl rfl rfl (by decide) xinX8 kw431 dX8_isKittenWaiting_1 ?_
  refine x_getr E h 1 16 12 rfl rfl rfl (by decide) xinX6 kw217 dX8_isKittenWaiting_4 ?_
  refine x_get E h 12 0 rfl rfl rfl (by decide) xinX3 kw164 dX8_isKittenWaiting_7 ?_
  exact x_zrp E h hf dX8_isKittenWaiting_10
set_option maxHeartbeats 4000000 in
set_option maxRecDepth 100000 in
theorem c_X8_votesFor (l : Launch) (D : va_G) (cy : Nat → ClassId) (s00 : State) (ad : Nat → Nat) (S : XS) (r9 : Int32) (hf : f_X8_votesFor S = some r9) : XI l yX8_votesFor cX8_votesFor 1 (some .int) 1 D cy s00 shCats ad S [.ref (ad 0)] r9 S := by
  refine XI.of (by decide) [(0, .ref (ad 0))] rfl (Nat.le_of_ble_eq_true rfl) (fun p e s m args below meth c A ls E h hl => ?_)
  unfold f_X8_votesFor at hf
  refine lv_aload_n E.1 E.2.1 dX8_votesFor_0 rfl (lv_at hl 0 rfl) ?_
  refine x_getr E h 0 0 1 rfl rfl rfl (by decide) xinX8 kw431 dX8_votesFor_1 ?_
  refine x_getr E h 1 16 12 rfl rfl rfl (by decide) xinX6 kw217 dX8_votesFor_4 ?_
  refine lv_iconst (v := 1) E.1 E.2.1 dX8_votesFor_7 (by decide) ?_
  refine x_callop E h hl 12 12 hf (xsub_of rfl) (fun r0 hr => c_X3_votes l D cy s00 _ (xs 12 S) 1 r0 hr) m_X3_votes rfl rfl kw789 rfl rfl (Nat.le_of_ble_eq_true rfl) ⟨by decide, by decide⟩ ⟨Nat.zero_le _, Nat.zero_le _⟩ dX8_votesFor_8 (fun v1 H locs hf h => ?_)
  exact x_irp E h hf dX8_votesFor_11
set_option maxHeartbeats 4000000 in
set_option maxRecDepth 100000 in
theorem c_X8_votesAgainst (l : Launch) (D : va_G) (cy : Nat → ClassId) (s00 : State) (ad : Nat → Nat) (S : XS) (r9 : Int32) (hf : f_X8_votesAgainst S = some r9) : XI l yX8_votesAgainst cX8_votesAgainst 1 (some .int) 1 D cy s00 shCats ad S [.ref (ad 0)] r9 S := by
  refine XI.of (by decide) [(0, .ref (ad 0))] rfl (Nat.le_of_ble_eq_true rfl) (fun p e s m args below meth c A ls E h hl => ?_)
  unfold f_X8_votesAgainst at hf
  refine lv_aload_n E.1 E.2.1 dX8_votesAgainst_0 rfl (lv_at hl 0 rfl) ?_
  refine x_getr E h 0 0 1 rfl rfl rfl (by decide) xinX8 kw431 dX8_votesAgainst_1 ?_
  refine x_getr E h 1 16 12 rfl rfl rfl (by decide) xinX6 kw217 dX8_votesAgainst_4 ?_
  refine lv_iconst (v := 2) E.1 E.2.1 dX8_votesAgainst_7 (by decide) ?_
  refine x_callop E h hl 12 12 hf (xsub_of rfl) (fun r0 hr => c_X3_votes l D cy s00 _ (xs 12 S) 2 r0 hr) m_X3_votes rfl rfl kw789 rfl rfl (Nat.le_of_ble_eq_true rfl) ⟨by decide, by decide⟩ ⟨Nat.zero_le _, Nat.zero_le _⟩ dX8_votesAgainst_8 (fun v1 H locs hf h => ?_)
  exact x_irp E h hf dX8_votesAgainst_11
set_option maxHeartbeats 4000000 in
set_option maxRecDepth 100000 in
theorem c_X8_hasVoted (l : Launch) (D : va_G) (cy : Nat → ClassId) (s00 : State) (ad : Nat → Nat) (hT : l.stackTraces = false ∧ XDW s00) (hG : XG s00) (S : XS) (p0 : Int32) (E9 : Nat) (r9 : Int32) (S9 : XS) (hf : f_X8_hasVoted S p0 = some (E9, r9, S9)) : XXI l yX8_hasVoted cX8_hasVoted 2 (some .boolean) 7 1 D cy s00 shCats ad S [.ref (ad 0), .int p0] E9 r9 S9 := by
  refine XXI.of (by decide) [(0, .ref (ad 0)), (1, .int p0)] rfl (Nat.le_of_ble_eq_true rfl) (fun p e s m args below meth c A ls E h hl hex => ?_)
  unfold f_X8_hasVoted at hf
  refine lv_aload_n E.1 E.2.1 dX8_hasVoted_0 rfl (lv_at hl 0 rfl) ?_
  refine lv_iload_n E.1 E.2.1 dX8_hasVoted_1 rfl (lv_at hl 1 rfl) ?_
  refine x_xcallv E h hl hex 0 hf (fun E8 r8 S8 hr => c_X8_needCat l D cy s00 _ hT hG S p0 E8 r8 S8 hr) m_X8_needCat rfl rfl kw1027 rfl rfl (Nat.le_of_ble_eq_true rfl) ⟨by decide, by decide⟩ ⟨Nat.le_of_ble_eq_true rfl, Nat.le_of_ble_eq_true rfl⟩ ⟨Nat.le_of_ble_eq_true rfl, Nat.le_of_ble_eq_true rfl⟩ dX8_hasVoted_2 (fun _ S1 H locs hf h => ?_)
  refine lv_aload_n E.1 E.2.1 dX8_hasVoted_5 rfl (lv_at hl 0 rfl) ?_
  refine x_getr E h 0 0 1 rfl rfl rfl (by decide) xinX8 kw431 dX8_hasVoted_6 ?_
  refine x_getr E h 1 16 12 rfl rfl rfl (by decide) xinX6 kw217 dX8_hasVoted_9 ?_
  refine x_getr E h 12 3 13 rfl rfl rfl (by decide) xinX3 kw171 dX8_hasVoted_12 ?_
  refine lv_iload_n E.1 E.2.1 dX8_hasVoted_15 rfl (lv_at hl 1 rfl) ?_
  refine x_iald E h 13 hf rfl dX8_hasVoted_16 (fun v2 hf => ?_)
  refine x_br hf (lv_if_eq (tgt := 24) E.1 E.2.1 dX8_hasVoted_17 (by decide)) (fun hf => ?_) (fun hf => ?_)
  · refine lv_iconst (v := 0) E.1 E.2.1 dX8_hasVoted_24 (by decide) ?_
    exact x_xzic E h (by decide) hf ⟨Nat.le_of_ble_eq_true rfl, Nat.le_of_ble_eq_true rfl⟩ dX8_hasVoted_25
  · refine lv_iconst (v := 1) E.1 E.2.1 dX8_hasVoted_20 (by decide) ?_
    refine lv_goto (tgt := 25) E.1 E.2.1 dX8_hasVoted_21 (by decide) ?_
    exact x_xzic E h (by decide) hf ⟨Nat.le_of_ble_eq_true rfl, Nat.le_of_ble_eq_true rfl⟩ dX8_hasVoted_25
set_option maxHeartbeats 4000000 in
set_option maxRecDepth 100000 in
theorem c_X8_choirOf (l : Launch) (D : va_G) (cy : Nat → ClassId) (s00 : State) (ad : Nat → Nat) (hT : l.stackTraces = false ∧ XDW s00) (hG : XG s00) (S : XS) (p0 : Int32) (E9 : Nat) (r9 : Int32) (S9 : XS) (hf : f_X8_choirOf S p0 = some (E9, r9, S9)) : XXI l yX8_choirOf cX8_choirOf 2 (some .int) 7 1 D cy s00 shCats ad S [.ref (ad 0), .int p0] E9 r9 S9 := by
  refine XXI.of (by decide) [(0, .ref (ad 0)), (1, .int p0)] rfl (Nat.le_of_ble_eq_true rfl) (fun p e s m args below meth c A ls E h hl hex => ?_)
  unfold f_X8_choirOf at hf
  refine lv_aload_n E.1 E.2.1 dX8_choirOf_0 rfl (lv_at hl 0 rfl) ?_
  refine lv_iload_n E.1 E.2.1 dX8_choirOf_1 rfl (lv_at hl 1 rfl) ?_
  refine x_xcallv E h hl hex 0 hf (fun E8 r8 S8 hr => c_X8_needCat l D cy s00 _ hT hG S p0 E8 r8 S8 hr) m_X8_needCat rfl rfl kw1027 rfl rfl (Nat.le_of_ble_eq_true rfl) ⟨by decide, by decide⟩ ⟨Nat.le_of_ble_eq_true rfl, Nat.le_of_ble_eq_true rfl⟩ ⟨Nat.le_of_ble_eq_true rfl, Nat.le_of_ble_eq_true rfl⟩ dX8_choirOf_2 (fun _ S1 H locs hf h => ?_)
  refine lv_aload_n E.1 E.2.1 dX8_choirOf_5 rfl (lv_at hl 0 rfl) ?_
  refine x_getr E h 0 0 1 rfl rfl rfl (by decide) xinX8 kw431 dX8_choirOf_6 ?_
  refine lv_iload_n E.1 E.2.1 dX8_choirOf_9 rfl (lv_at hl 1 rfl) ?_
  refine x_callop E h hl 1 1 hf (xsub_of rfl) (fun r0 hr => c_X6_choirAround l D cy s00 _ (xs 1 S1) p0 r0 hr) m_X6_choirAround rfl rfl kw798 rfl rfl (Nat.le_of_ble_eq_true rfl) ⟨by decide, by decide⟩ ⟨Nat.le_of_ble_eq_true rfl, Nat.le_of_ble_eq_true rfl⟩ dX8_choirOf_10 (fun v2 H locs hf h => ?_)
  exact x_xiret E h hf ⟨Nat.le_of_ble_eq_true rfl, Nat.le_of_ble_eq_true rfl⟩ dX8_choirOf_13
set_option maxHeartbeats 4000000 in
set_option maxRecDepth 100000 in
theorem w_X8_choirCount_L6 {p : Program} {l : Launch} {e : Env} {s : State} {m : MethodId} {args : Array Value} {below : List Frame} {meth : Method} {c : Code} {D : va_G} {cy : Nat → ClassId} {s00 : State} {ad : Nat → Nat} {A : Nat → Prop}  {r9 : Int32}  {S : XS} {K : Int32 → Int32 → Int32 → Option (Int32)} (E : XE p s m args meth c cX8_choirCount 4 RX8 (some .int) D cy s00) (hk : ∀ (m1 m2 m3 : Int32) (H : Heap) (locs : List Loc) (ls : Array Slot), K m1 m2 m3 = some r9 → XH D cy s00 shCats ad S A s H locs → lv_has ls 4 [(0, .ref (ad 0)), (1, .int m1), (2, .int m2), (3, .int m3)] → W p l e (xrm 2) s m args below meth c H locs 0 0 (MQ below (xqi D cy shCats ad r9 S A) args s 0 0 A) (F0 m 45 ls [])) :
    ∀ (n : Nat) (m1 m2 m3 : Int32) (H : Heap) (locs : List Loc) (ls : Array Slot), f_X8_choirCount_L6 K S n m1 m2 m3 = some r9 → XH D cy s00 shCats ad S A s H locs → lv_has ls 4 [(0, .ref (ad 0)), (1, .int m1), (2, .int m2), (3, .int m3)] → W p l e (xrm 2) s m args below meth c H locs 0 0 (MQ below (xqi D cy shCats ad r9 S A) args s 0 0 A) (F0 m 6 ls []) := by
  intro n
  induction n with
  | zero => intro m1 m2 m3 H locs ls hf; cases hf
  | succ n ih =>
    intro m1 m2 m3 H locs ls hf h hl
    rw [f_X8_choirCount_L6] at hf
    refine lv_iload_n E.1 E.2.1 dX8_choirCount_6 rfl (lv_at hl 3 rfl) ?_
    refine lv_aload_n E.1 E.2.1 dX8_choirCount_7 rfl (lv_at hl 0 rfl) ?_
    refine x_getr E h 0 0 1 rfl rfl rfl (by decide) xinX8 kw431 dX8_choirCount_8 ?_
    refine x_get E h 1 7 rfl rfl rfl (by decide) xinX6 kw203 dX8_choirCount_11 ?_
    refine x_br hf (lv_icmp_ge (tgt := 45) E.1 E.2.1 dX8_choirCount_14 (by decide)) (fun hf => ?_) (fun hf => ?_)
    · exact hk _ _ _ _ _ _ hf h (lv_sub hl [0, 1, 2, 3] rfl)
    · refine lv_iload_n E.1 E.2.1 dX8_choirCount_17 rfl (lv_at hl 1 rfl) ?_
      refine lv_iload_n E.1 E.2.1 dX8_choirCount_18 rfl (lv_at hl 3 rfl) ?_
      refine lv_ishr E.1 E.2.1 dX8_choirCount_19 ?_
      refine lv_iconst (v := 1) E.1 E.2.1 dX8_choirCount_20 (by decide) ?_
      refine lv_iand E.1 E.2.1 dX8_choirCount_21 ?_
      refine x_brn hf (lv_if_ne (tgt := 39) E.1 E.2.1 dX8_choirCount_22 (by decide)) (fun hf => ?_) (fun hf => ?_)
      · refine x_nv hf (fun v1 e9 hf => ?_)
        refine lv_iinc (v := v1) (lv' := [(3, .int v1), (0, .ref (ad 0)), (1, .int m1), (2, .int m2)]) E.1 E.2.1 dX8_choirCount_39 hl (k := 3) rfl (by rw [e9]; rfl) (by decide) rfl (fun ls hl => ?_)
        refine lv_goto (tgt := 6) E.1 E.2.1 dX8_choirCount_42 (by decide) ?_
        exact ih _ _ _ _ _ _ hf h (lv_sub hl [1, 2, 3, 0] rfl)
      · refine lv_iload_n E.1 E.2.1 dX8_choirCount_25 rfl (lv_at hl 1 rfl) ?_
        refine lv_aload_n E.1 E.2.1 dX8_choirCount_26 rfl (lv_at hl 0 rfl) ?_
        refine x_getr E h 0 0 1 rfl rfl rfl (by decide) xinX8 kw431 dX8_choirCount_27 ?_
        refine lv_iload_n E.1 E.2.1 dX8_choirCount_30 rfl (lv_at hl 3 rfl) ?_
        refine x_callop E h hl 1 1 hf (xsub_of rfl) (fun r0 hr => c_X6_choirAround l D cy s00 _ (xs 1 S) m3 r0 hr) m_X6_choirAround rfl rfl kw798 rfl rfl (Nat.le_of_ble_eq_true rfl) ⟨by decide, by decide⟩ ⟨Nat.zero_le _, Nat.zero_le _⟩ dX8_choirCount_31 (fun v2 H locs hf h => ?_)
        refine lv_ior E.1 E.2.1 dX8_choirCount_34 ?_
        refine x_nm hf (fun v3 hf => ?_)
        refine lv_istore_n (lv' := [(1, .int v3), (0, .ref (ad 0)), (2, .int m2), (3, .int m3)]) E.1 E.2.1 dX8_choirCount_35 rfl hl (by decide) rfl (fun ls hl => ?_)
        refine x_nv hf (fun v4 e9 hf => ?_)
        refine lv_iinc (v := v4) (lv' := [(2, .int v4), (1, .int v3), (0, .ref (ad 0)), (3, .int m3)]) E.1 E.2.1 dX8_choirCount_36 hl (k := 2) rfl (by rw [e9]; rfl) (by decide) rfl (fun ls hl => ?_)
        refine x_nv hf (fun v5 e9 hf => ?_)
        refine lv_iinc (v := v5) (lv' := [(3, .int v5), (2, .int v4), (1, .int v3), (0, .ref (ad 0))]) E.1 E.2.1 dX8_choirCount_39 hl (k := 3) rfl (by rw [e9]; rfl) (by decide) rfl (fun ls hl => ?_)
        refine lv_goto (tgt := 6) E.1 E.2.1 dX8_choirCount_42 (by decide) ?_
        exact ih _ _ _ _ _ _ hf h (lv_sub hl [3, 2, 1, 0] rfl)
set_option maxHeartbeats 4000000 in
set_option maxRecDepth 100000 in
theorem c_X8_choirCount (l : Launch) (D : va_G) (cy : Nat → ClassId) (s00 : State) (ad : Nat → Nat) (S : XS) (r9 : Int32) (hf : f_X8_choirCount S = some r9) : XI l yX8_choirCount cX8_choirCount 4 (some .int) 2 D cy s00 shCats ad S [.ref (ad 0)] r9 S := by
  refine XI.of (by decide) [(0, .ref (ad 0))] rfl (Nat.le_of_ble_eq_true rfl) (fun p e s m args below meth c A ls E h hl => ?_)
  unfold f_X8_choirCount at hf
  refine lv_iconst (v := 0) E.1 E.2.1 dX8_choirCount_0 (by decide) ?_
  refine lv_istore_n (lv' := [(1, .int 0), (0, .ref (ad 0))]) E.1 E.2.1 dX8_choirCount_1 rfl hl (by decide) rfl (fun ls hl => ?_)
  refine lv_iconst (v := 0) E.1 E.2.1 dX8_choirCount_2 (by decide) ?_
  refine lv_istore_n (lv' := [(2, .int 0), (1, .int 0), (0, .ref (ad 0))]) E.1 E.2.1 dX8_choirCount_3 rfl hl (by decide) rfl (fun ls hl => ?_)
  refine lv_iconst (v := 0) E.1 E.2.1 dX8_choirCount_4 (by decide) ?_
  refine lv_istore_n (lv' := [(3, .int 0), (2, .int 0), (1, .int 0), (0, .ref (ad 0))]) E.1 E.2.1 dX8_choirCount_5 rfl hl (by decide) rfl (fun ls hl => ?_)
  refine w_X8_choirCount_L6 E ?_ _ _ _ _ _ _ _ hf h (lv_sub hl [3, 2, 1, 0] rfl)
  intro v6 v7 v8 H locs ls hf h hl
  refine lv_iload_n E.1 E.2.1 dX8_choirCount_45 rfl (lv_at hl 2 rfl) ?_
  exact x_irp E h hf dX8_choirCount_46
set_option maxHeartbeats 4000000 in
set_option maxRecDepth 100000 in
theorem c_X8_largestChoir (l : Launch) (D : va_G) (cy : Nat → ClassId) (s00 : State) (ad : Nat → Nat) (S : XS) (r9 : Int32) (hf : f_X8_largestChoir S = some r9) : XI l yX8_largestChoir cX8_largestChoir 1 (some .int) 3 D cy s00 shCats ad S [.ref (ad 0)] r9 S := by
  refine XI.of (by decide) [(0, .ref (ad 0))] rfl (Nat.le_of_ble_eq_true rfl) (fun p e s m args below meth c A ls E h hl => ?_)
  unfold f_X8_largestChoir at hf
  refine lv_aload_n E.1 E.2.1 dX8_largestChoir_0 rfl (lv_at hl 0 rfl) ?_
  refine x_getr E h 0 0 1 rfl rfl rfl (by decide) xinX8 kw431 dX8_largestChoir_1 ?_
  refine x_callop E h hl 1 1 hf (xsub_of rfl) (fun r0 hr => c_X6_mainChoir l D cy s00 _ (xs 1 S)  r0 hr) m_X6_mainChoir rfl rfl kw803 rfl rfl (Nat.le_of_ble_eq_true rfl) ⟨by decide, by decide⟩ ⟨Nat.zero_le _, Nat.zero_le _⟩ dX8_largestChoir_4 (fun v1 H locs hf h => ?_)
  exact x_irp E h hf dX8_largestChoir_7
set_option maxHeartbeats 4000000 in
set_option maxRecDepth 100000 in
theorem c_X8_nightsToFullMoon (l : Launch) (D : va_G) (cy : Nat → ClassId) (s00 : State) (ad : Nat → Nat) (S : XS) (r9 : Int32) (hf : f_X8_nightsToFullMoon S = some r9) : XI l yX8_nightsToFullMoon cX8_nightsToFullMoon 2 (some .int) 0 D cy s00 shCats ad S [.ref (ad 0)] r9 S := by
  refine XI.of (by decide) [(0, .ref (ad 0))] rfl (Nat.le_of_ble_eq_true rfl) (fun p e s m args below meth c A ls E h hl => ?_)
  unfold f_X8_nightsToFullMoon at hf
  refine lv_iconst (v := 4) E.1 E.2.1 dX8_nightsToFullMoon_0 (by decide) ?_
  refine lv_aload_n E.1 E.2.1 dX8_nightsToFullMoon_1 rfl (lv_at hl 0 rfl) ?_
  refine x_getr E h 0 0 1 rfl rfl rfl (by decide) xinX8 kw431 dX8_nightsToFullMoon_2 ?_
  refine x_get E h 1 13 rfl rfl rfl (by decide) xinX6 kw213 dX8_nightsToFullMoon_5 ?_
  refine lv_bipush (v := 8) E.1 E.2.1 dX8_nightsToFullMoon_8 (by decide) ?_
  refine lv_irem E.1 E.2.1 dX8_nightsToFullMoon_10 (by decide) ?_
  refine lv_isub E.1 E.2.1 dX8_nightsToFullMoon_11 ?_
  refine x_nm hf (fun v1 hf => ?_)
  refine lv_istore_n (lv' := [(1, .int v1), (0, .ref (ad 0))]) E.1 E.2.1 dX8_nightsToFullMoon_12 rfl hl (by decide) rfl (fun ls hl => ?_)
  refine lv_iload_n E.1 E.2.1 dX8_nightsToFullMoon_13 rfl (lv_at hl 0 rfl) ?_
  refine x_br hf (lv_if_le (tgt := 21) E.1 E.2.1 dX8_nightsToFullMoon_14 (by decide)) (fun hf => ?_) (fun hf => ?_)
  · refine lv_iload_n E.1 E.2.1 dX8_nightsToFullMoon_21 rfl (lv_at hl 0 rfl) ?_
    refine lv_bipush (v := 8) E.1 E.2.1 dX8_nightsToFullMoon_22 (by decide) ?_
    refine lv_iadd E.1 E.2.1 dX8_nightsToFullMoon_24 ?_
    exact x_irp E h hf dX8_nightsToFullMoon_25
  · refine lv_iload_n E.1 E.2.1 dX8_nightsToFullMoon_17 rfl (lv_at hl 0 rfl) ?_
    refine lv_goto (tgt := 25) E.1 E.2.1 dX8_nightsToFullMoon_18 (by decide) ?_
    exact x_irp E h hf dX8_nightsToFullMoon_25
set_option maxHeartbeats 4000000 in
set_option maxRecDepth 100000 in
theorem c_X8_fishAfter (l : Launch) (D : va_G) (cy : Nat → ClassId) (s00 : State) (ad : Nat → Nat) (hT : l.stackTraces = false ∧ XDW s00) (hG : XG s00) (S : XS) (p0 p1 : Int32) (E9 : Nat) (r9 : Int32) (S9 : XS) (hf : f_X8_fishAfter S p0 p1 = some (E9, r9, S9)) : XXI l yX8_fishAfter cX8_fishAfter 3 (some .int) 7 2 D cy s00 shCats ad S [.ref (ad 0), .int p0, .int p1] E9 r9 S9 := by
  refine XXI.of (by decide) [(0, .ref (ad 0)), (1, .int p0), (2, .int p1)] rfl (Nat.le_of_ble_eq_true rfl) (fun p e s m args below meth c A ls E h hl hex => ?_)
  unfold f_X8_fishAfter at hf
  refine lv_aload_n E.1 E.2.1 dX8_fishAfter_0 rfl (lv_at hl 0 rfl) ?_
  refine lv_iload_n E.1 E.2.1 dX8_fishAfter_1 rfl (lv_at hl 1 rfl) ?_
  refine x_xcallv E h hl hex 0 hf (fun E8 r8 S8 hr => c_X8_needCat l D cy s00 _ hT hG S p0 E8 r8 S8 hr) m_X8_needCat rfl rfl kw1027 rfl rfl (Nat.le_of_ble_eq_true rfl) ⟨by decide, by decide⟩ ⟨Nat.le_of_ble_eq_true rfl, Nat.le_of_ble_eq_true rfl⟩ ⟨Nat.le_of_ble_eq_true rfl, Nat.le_of_ble_eq_true rfl⟩ dX8_fishAfter_2 (fun _ S1 H locs hf h => ?_)
  refine lv_aload_n E.1 E.2.1 dX8_fishAfter_5 rfl (lv_at hl 0 rfl) ?_
  refine lv_iload_n E.1 E.2.1 dX8_fishAfter_6 rfl (lv_at hl 2 rfl) ?_
  refine lv_iconst (v := 0) E.1 E.2.1 dX8_fishAfter_7 (by decide) ?_
  refine lv_bipush (v := 30) E.1 E.2.1 dX8_fishAfter_8 (by decide) ?_
  refine x_xcallv E h hl hex 0 hf (fun E8 r8 S8 hr => c_X8_needRange l D cy s00 _ hT hG S1 p1 0 30 E8 r8 S8 hr) m_X8_needRange rfl rfl kw953 rfl rfl (Nat.le_of_ble_eq_true rfl) ⟨by decide, by decide⟩ ⟨Nat.le_of_ble_eq_true rfl, Nat.le_of_ble_eq_true rfl⟩ ⟨Nat.le_of_ble_eq_true rfl, Nat.le_of_ble_eq_true rfl⟩ dX8_fishAfter_10 (fun _ S2 H locs hf h => ?_)
  refine lv_aload_n E.1 E.2.1 dX8_fishAfter_13 rfl (lv_at hl 0 rfl) ?_
  refine x_getr E h 0 0 1 rfl rfl rfl (by decide) xinX8 kw431 dX8_fishAfter_14 ?_
  refine lv_iload_n E.1 E.2.1 dX8_fishAfter_17 rfl (lv_at hl 1 rfl) ?_
  refine lv_iload_n E.1 E.2.1 dX8_fishAfter_18 rfl (lv_at hl 2 rfl) ?_
  refine x_callop E h hl 1 1 hf (xsub_of rfl) (fun r0 hr => c_X6_futureFish l D cy s00 _ (xs 1 S2) p0 p1 r0 hr) m_X6_futureFish rfl rfl kw1299 rfl rfl (Nat.le_of_ble_eq_true rfl) ⟨by decide, by decide⟩ ⟨Nat.le_of_ble_eq_true rfl, Nat.le_of_ble_eq_true rfl⟩ dX8_fishAfter_19 (fun v3 H locs hf h => ?_)
  exact x_xiret E h hf ⟨Nat.le_of_ble_eq_true rfl, Nat.le_of_ble_eq_true rfl⟩ dX8_fishAfter_22
set_option maxHeartbeats 4000000 in
set_option maxRecDepth 100000 in
theorem w_X8_richestCat_L6 {p : Program} {l : Launch} {e : Env} {s : State} {m : MethodId} {args : Array Value} {below : List Frame} {meth : Method} {c : Code} {D : va_G} {cy : Nat → ClassId} {s00 : State} {ad : Nat → Nat} {A : Nat → Prop}  {r9 : Int32}  {S : XS} {K : Int32 → Int32 → Int32 → Option (Int32)} (E : XE p s m args meth c cX8_richestCat 4 RX8 (some .int) D cy s00) (hk : ∀ (m1 m2 m3 : Int32) (H : Heap) (locs : List Loc) (ls : Array Slot), K m1 m2 m3 = some r9 → XH D cy s00 shCats ad S A s H locs → lv_has ls 4 [(0, .ref (ad 0)), (1, .int m1), (2, .int m2), (3, .int m3)] → W p l e (xrm 0) s m args below meth c H locs 0 0 (MQ below (xqi D cy shCats ad r9 S A) args s 0 0 A) (F0 m 48 ls [])) :
    ∀ (n : Nat) (m1 m2 m3 : Int32) (H : Heap) (locs : List Loc) (ls : Array Slot), f_X8_richestCat_L6 K S n m1 m2 m3 = some r9 → XH D cy s00 shCats ad S A s H locs → lv_has ls 4 [(0, .ref (ad 0)), (1, .int m1), (2, .int m2), (3, .int m3)] → W p l e (xrm 0) s m args below meth c H locs 0 0 (MQ below (xqi D cy shCats ad r9 S A) args s 0 0 A) (F0 m 6 ls []) := by
  intro n
  induction n with
  | zero => intro m1 m2 m3 H locs ls hf; cases hf
  | succ n ih =>
    intro m1 m2 m3 H locs ls hf h hl
    rw [f_X8_richestCat_L6] at hf
    refine lv_iload_n E.1 E.2.1 dX8_richestCat_6 rfl (lv_at hl 3 rfl) ?_
    refine lv_aload_n E.1 E.2.1 dX8_richestCat_7 rfl (lv_at hl 0 rfl) ?_
    refine x_getr E h 0 0 1 rfl rfl rfl (by decide) xinX8 kw431 dX8_richestCat_8 ?_
    refine x_get E h 1 7 rfl rfl rfl (by decide) xinX6 kw203 dX8_richestCat_11 ?_
    refine x_br hf (lv_icmp_ge (tgt := 48) E.1 E.2.1 dX8_richestCat_14 (by decide)) (fun hf => ?_) (fun hf => ?_)
    · exact hk _ _ _ _ _ _ hf h (lv_sub hl [0, 1, 2, 3] rfl)
    · refine lv_aload_n E.1 E.2.1 dX8_richestCat_17 rfl (lv_at hl 0 rfl) ?_
      refine x_getr E h 0 0 1 rfl rfl rfl (by decide) xinX8 kw431 dX8_richestCat_18 ?_
      refine x_getr E h 1 10 9 rfl rfl rfl (by decide) xinX6 kw208 dX8_richestCat_21 ?_
      refine lv_iload_n E.1 E.2.1 dX8_richestCat_24 rfl (lv_at hl 3 rfl) ?_
      refine x_iald E h 9 hf rfl dX8_richestCat_25 (fun v1 hf => ?_)
      refine lv_iload_n E.1 E.2.1 dX8_richestCat_26 rfl (lv_at hl 2 rfl) ?_
      refine x_br hf (lv_icmp_le (tgt := 42) E.1 E.2.1 dX8_richestCat_27 (by decide)) (fun hf => ?_) (fun hf => ?_)
      · refine x_nv hf (fun v2 e9 hf => ?_)
        refine lv_iinc (v := v2) (lv' := [(3, .int v2), (0, .ref (ad 0)), (1, .int m1), (2, .int m2)]) E.1 E.2.1 dX8_richestCat_42 hl (k := 3) rfl (by rw [e9]; rfl) (by decide) rfl (fun ls hl => ?_)
        refine lv_goto (tgt := 6) E.1 E.2.1 dX8_richestCat_45 (by decide) ?_
        exact ih _ _ _ _ _ _ hf h (lv_sub hl [1, 2, 3, 0] rfl)
      · refine lv_iload_n E.1 E.2.1 dX8_richestCat_30 rfl (lv_at hl 3 rfl) ?_
        refine lv_istore_n (lv' := [(1, .int m3), (0, .ref (ad 0)), (2, .int m2), (3, .int m3)]) E.1 E.2.1 dX8_richestCat_31 rfl hl (by decide) rfl (fun ls hl => ?_)
        refine lv_aload_n E.1 E.2.1 dX8_richestCat_32 rfl (lv_at hl 1 rfl) ?_
        refine x_getr E h 0 0 1 rfl rfl rfl (by decide) xinX8 kw431 dX8_richestCat_33 ?_
        refine x_getr E h 1 10 9 rfl rfl rfl (by decide) xinX6 kw208 dX8_richestCat_36 ?_
        refine lv_iload_n E.1 E.2.1 dX8_richestCat_39 rfl (lv_at hl 3 rfl) ?_
        refine x_iald E h 9 hf rfl dX8_richestCat_40 (fun v3 hf => ?_)
        refine lv_istore_n (lv' := [(2, .int v3), (1, .int m3), (0, .ref (ad 0)), (3, .int m3)]) E.1 E.2.1 dX8_richestCat_41 rfl hl (by decide) rfl (fun ls hl => ?_)
        refine x_nv hf (fun v4 e9 hf => ?_)
        refine lv_iinc (v := v4) (lv' := [(3, .int v4), (2, .int v3), (1, .int m3), (0, .ref (ad 0))]) E.1 E.2.1 dX8_richestCat_42 hl (k := 3) rfl (by rw [e9]; rfl) (by decide) rfl (fun ls hl => ?_)
        refine lv_goto (tgt := 6) E.1 E.2.1 dX8_richestCat_45 (by decide) ?_
        exact ih _ _ _ _ _ _ hf h (lv_sub hl [3, 2, 1, 0] rfl)
set_option maxHeartbeats 4000000 in
set_option maxRecDepth 100000 in
theorem c_X8_richestCat (l : Launch) (D : va_G) (cy : Nat → ClassId) (s00 : State) (ad : Nat → Nat) (S : XS) (r9 : Int32) (hf : f_X8_richestCat S = some r9) : XI l yX8_richestCat cX8_richestCat 4 (some .int) 0 D cy s00 shCats ad S [.ref (ad 0)] r9 S := by
  refine XI.of (by decide) [(0, .ref (ad 0))] rfl (Nat.le_of_ble_eq_true rfl) (fun p e s m args below meth c A ls E h hl => ?_)
  unfold f_X8_richestCat at hf
  refine lv_iconst (v := (-1)) E.1 E.2.1 dX8_richestCat_0 (by decide) ?_
  refine lv_istore_n (lv' := [(1, .int (-1)), (0, .ref (ad 0))]) E.1 E.2.1 dX8_richestCat_1 rfl hl (by decide) rfl (fun ls hl => ?_)
  refine lv_iconst (v := (-1)) E.1 E.2.1 dX8_richestCat_2 (by decide) ?_
  refine lv_istore_n (lv' := [(2, .int (-1)), (1, .int (-1)), (0, .ref (ad 0))]) E.1 E.2.1 dX8_richestCat_3 rfl hl (by decide) rfl (fun ls hl => ?_)
  refine lv_iconst (v := 0) E.1 E.2.1 dX8_richestCat_4 (by decide) ?_
  refine lv_istore_n (lv' := [(3, .int 0), (2, .int (-1)), (1, .int (-1)), (0, .ref (ad 0))]) E.1 E.2.1 dX8_richestCat_5 rfl hl (by decide) rfl (fun ls hl => ?_)
  refine w_X8_richestCat_L6 E ?_ _ _ _ _ _ _ _ hf h (lv_sub hl [3, 2, 1, 0] rfl)
  intro v5 v6 v7 H locs ls hf h hl
  refine lv_iload_n E.1 E.2.1 dX8_richestCat_48 rfl (lv_at hl 1 rfl) ?_
  exact x_irp E h hf dX8_richestCat_49
set_option maxHeartbeats 4000000 in
set_option maxRecDepth 100000 in
theorem c_X8_totalFish (l : Launch) (D : va_G) (cy : Nat → ClassId) (s00 : State) (ad : Nat → Nat) (S : XS) (r9 : Int32) (hf : f_X8_totalFish S = some r9) : XI l yX8_totalFish cX8_totalFish 1 (some .int) 1 D cy s00 shCats ad S [.ref (ad 0)] r9 S := by
  refine XI.of (by decide) [(0, .ref (ad 0))] rfl (Nat.le_of_ble_eq_true rfl) (fun p e s m args below meth c A ls E h hl => ?_)
  unfold f_X8_totalFish at hf
  refine lv_aload_n E.1 E.2.1 dX8_totalFish_0 rfl (lv_at hl 0 rfl) ?_
  refine x_getr E h 0 0 1 rfl rfl rfl (by decide) xinX8 kw431 dX8_totalFish_1 ?_
  refine x_callop E h hl 1 1 hf (xsub_of rfl) (fun r0 hr => c_X6_allFish l D cy s00 _ (xs 1 S)  r0 hr) m_X6_allFish rfl rfl kw816 rfl rfl (Nat.le_of_ble_eq_true rfl) ⟨by decide, by decide⟩ ⟨Nat.zero_le _, Nat.zero_le _⟩ dX8_totalFish_4 (fun v1 H locs hf h => ?_)
  exact x_irp E h hf dX8_totalFish_7
set_option maxHeartbeats 4000000 in
set_option maxRecDepth 100000 in
theorem c_X8_meanFish (l : Launch) (D : va_G) (cy : Nat → ClassId) (s00 : State) (ad : Nat → Nat) (S : XS) (r9 : UInt64) (S9 : XS) (hf : f_X8_meanFish S = some (r9, S9)) : XD l yX8_meanFish cX8_meanFish 1 (some .double) 1 D cy s00 shCats ad S [.ref (ad 0)] r9 S9 := by
  refine XD.of (by decide) [(0, .ref (ad 0))] rfl (Nat.le_of_ble_eq_true rfl) (fun p e s m args below meth c A ls E h hl => ?_)
  unfold f_X8_meanFish at hf
  refine lv_aload_n E.1 E.2.1 dX8_meanFish_0 rfl (lv_at hl 0 rfl) ?_
  refine x_getr E h 0 0 1 rfl rfl rfl (by decide) xinX8 kw431 dX8_meanFish_1 ?_
  refine x_get E h 1 7 rfl rfl rfl (by decide) xinX6 kw203 dX8_meanFish_4 ?_
  refine x_brn hf (lv_if_ne (tgt := 12) E.1 E.2.1 dX8_meanFish_7 (by decide)) (fun hf => ?_) (fun hf => ?_)
  · refine lv_aload_n E.1 E.2.1 dX8_meanFish_12 rfl (lv_at hl 0 rfl) ?_
    refine x_getr E h 0 0 1 rfl rfl rfl (by decide) xinX8 kw431 dX8_meanFish_13 ?_
    refine x_callop E h hl 1 1 hf (xsub_of rfl) (fun r0 hr => c_X6_allFish l D cy s00 _ (xs 1 S)  r0 hr) m_X6_allFish rfl rfl kw816 rfl rfl (Nat.le_of_ble_eq_true rfl) ⟨by decide, by decide⟩ ⟨Nat.zero_le _, Nat.zero_le _⟩ dX8_meanFish_16 (fun v1 H locs hf h => ?_)
    refine lv_i2d E.1 E.2.1 dX8_meanFish_19 ?_
    refine lv_aload_n E.1 E.2.1 dX8_meanFish_20 rfl (lv_at hl 0 rfl) ?_
    refine x_getr E h 0 0 1 rfl rfl rfl (by decide) xinX8 kw431 dX8_meanFish_21 ?_
    refine x_get E h 1 7 rfl rfl rfl (by decide) xinX6 kw203 dX8_meanFish_24 ?_
    refine lv_i2d E.1 E.2.1 dX8_meanFish_27 ?_
    obtain ⟨hn, hf⟩ := xdn_in hf
    refine lv_ddiv E.1 E.2.1 dX8_meanFish_28 hn ?_
    generalize FP.ddiv (FP.i2d v1) (FP.i2d (S 1 7)) = v2 at hf ⊢
    exact x_dret E h hf dX8_meanFish_29
  · refine lv_dconst0 E.1 E.2.1 dX8_meanFish_10 ?_
    exact x_dret E h hf dX8_meanFish_11
set_option maxHeartbeats 4000000 in
set_option maxRecDepth 100000 in
theorem w_X8_ownedShare_L16 {p : Program} {l : Launch} {e : Env} {s : State} {m : MethodId} {args : Array Value} {below : List Frame} {meth : Method} {c : Code} {D : va_G} {cy : Nat → ClassId} {s00 : State} {ad : Nat → Nat} {A : Nat → Prop}  {r9 : UInt32} {S9 : XS}  {S : XS} {K : Int32 → Int32 → Option (UInt32 × XS)} (E : XE p s m args meth c cX8_ownedShare 3 RX8 (some .float) D cy s00) (hk : ∀ (m1 m2 : Int32) (H : Heap) (locs : List Loc) (ls : Array Slot), K m1 m2 = some (r9, S9) → XH D cy s00 shCats ad S A s H locs → lv_has ls 3 [(0, .ref (ad 0)), (1, .int m1), (2, .int m2)] → W p l e (xrm 0) s m args below meth c H locs 0 0 (MQ below (xqf D cy shCats ad r9 S9 A) args s 0 0 A) (F0 m 49 ls [])) :
    ∀ (n : Nat) (m1 m2 : Int32) (H : Heap) (locs : List Loc) (ls : Array Slot), f_X8_ownedShare_L16 K S n m1 m2 = some (r9, S9) → XH D cy s00 shCats ad S A s H locs → lv_has ls 3 [(0, .ref (ad 0)), (1, .int m1), (2, .int m2)] → W p l e (xrm 0) s m args below meth c H locs 0 0 (MQ below (xqf D cy shCats ad r9 S9 A) args s 0 0 A) (F0 m 16 ls []) := by
  intro n
  induction n with
  | zero => intro m1 m2 H locs ls hf; cases hf
  | succ n ih =>
    intro m1 m2 H locs ls hf h hl
    rw [f_X8_ownedShare_L16] at hf
    refine lv_iload_n E.1 E.2.1 dX8_ownedShare_16 rfl (lv_at hl 2 rfl) ?_
    refine lv_aload_n E.1 E.2.1 dX8_ownedShare_17 rfl (lv_at hl 0 rfl) ?_
    refine x_getr E h 0 0 1 rfl rfl rfl (by decide) xinX8 kw431 dX8_ownedShare_18 ?_
    refine x_get E h 1 0 rfl rfl rfl (by decide) xinX6 kw184 dX8_ownedShare_21 ?_
    refine x_br hf (lv_icmp_ge (tgt := 49) E.1 E.2.1 dX8_ownedShare_24 (by decide)) (fun hf => ?_) (fun hf => ?_)
    · exact hk _ _ _ _ _ hf h (lv_sub hl [0, 1, 2] rfl)
    · refine lv_aload_n E.1 E.2.1 dX8_ownedShare_27 rfl (lv_at hl 0 rfl) ?_
      refine x_getr E h 0 0 1 rfl rfl rfl (by decide) xinX8 kw431 dX8_ownedShare_28 ?_
      refine x_getr E h 1 2 3 rfl rfl rfl (by decide) xinX6 kw191 dX8_ownedShare_31 ?_
      refine lv_iload_n E.1 E.2.1 dX8_ownedShare_34 rfl (lv_at hl 2 rfl) ?_
      refine x_iald E h 3 hf rfl dX8_ownedShare_35 (fun v1 hf => ?_)
      refine lv_iconst (v := (-1)) E.1 E.2.1 dX8_ownedShare_36 (by decide) ?_
      refine x_br hf (lv_icmp_eq (tgt := 43) E.1 E.2.1 dX8_ownedShare_37 (by decide)) (fun hf => ?_) (fun hf => ?_)
      · refine x_nv hf (fun v2 e9 hf => ?_)
        refine lv_iinc (v := v2) (lv' := [(2, .int v2), (0, .ref (ad 0)), (1, .int m1)]) E.1 E.2.1 dX8_ownedShare_43 hl (k := 2) rfl (by rw [e9]; rfl) (by decide) rfl (fun ls hl => ?_)
        refine lv_goto (tgt := 16) E.1 E.2.1 dX8_ownedShare_46 (by decide) ?_
        exact ih _ _ _ _ _ hf h (lv_sub hl [1, 2, 0] rfl)
      · refine x_nv hf (fun v3 e9 hf => ?_)
        refine lv_iinc (v := v3) (lv' := [(1, .int v3), (0, .ref (ad 0)), (2, .int m2)]) E.1 E.2.1 dX8_ownedShare_40 hl (k := 1) rfl (by rw [e9]; rfl) (by decide) rfl (fun ls hl => ?_)
        refine x_nv hf (fun v4 e9 hf => ?_)
        refine lv_iinc (v := v4) (lv' := [(2, .int v4), (1, .int v3), (0, .ref (ad 0))]) E.1 E.2.1 dX8_ownedShare_43 hl (k := 2) rfl (by rw [e9]; rfl) (by decide) rfl (fun ls hl => ?_)
        refine lv_goto (tgt := 16) E.1 E.2.1 dX8_ownedShare_46 (by decide) ?_
        exact ih _ _ _ _ _ hf h (lv_sub hl [2, 1, 0] rfl)
set_option maxHeartbeats 4000000 in
set_option maxRecDepth 100000 in
theorem c_X8_ownedShare (l : Launch) (D : va_G) (cy : Nat → ClassId) (s00 : State) (ad : Nat → Nat) (S : XS) (r9 : UInt32) (S9 : XS) (hf : f_X8_ownedShare S = some (r9, S9)) : XFl l yX8_ownedShare cX8_ownedShare 3 (some .float) 0 D cy s00 shCats ad S [.ref (ad 0)] r9 S9 := by
  refine XFl.of (by decide) [(0, .ref (ad 0))] rfl (Nat.le_of_ble_eq_true rfl) (fun p e s m args below meth c A ls E h hl => ?_)
  unfold f_X8_ownedShare at hf
  refine lv_aload_n E.1 E.2.1 dX8_ownedShare_0 rfl (lv_at hl 0 rfl) ?_
  refine x_getr E h 0 0 1 rfl rfl rfl (by decide) xinX8 kw431 dX8_ownedShare_1 ?_
  refine x_get E h 1 0 rfl rfl rfl (by decide) xinX6 kw184 dX8_ownedShare_4 ?_
  refine x_brn hf (lv_if_ne (tgt := 12) E.1 E.2.1 dX8_ownedShare_7 (by decide)) (fun hf => ?_) (fun hf => ?_)
  · refine lv_iconst (v := 0) E.1 E.2.1 dX8_ownedShare_12 (by decide) ?_
    refine lv_istore_n (lv' := [(1, .int 0), (0, .ref (ad 0))]) E.1 E.2.1 dX8_ownedShare_13 rfl hl (by decide) rfl (fun ls hl => ?_)
    refine lv_iconst (v := 0) E.1 E.2.1 dX8_ownedShare_14 (by decide) ?_
    refine lv_istore_n (lv' := [(2, .int 0), (1, .int 0), (0, .ref (ad 0))]) E.1 E.2.1 dX8_ownedShare_15 rfl hl (by decide) rfl (fun ls hl => ?_)
    refine w_X8_ownedShare_L16 E ?_ _ _ _ _ _ _ hf h (lv_sub hl [2, 1, 0] rfl)
    intro v5 v6 H locs ls hf h hl
    refine lv_iload_n E.1 E.2.1 dX8_ownedShare_49 rfl (lv_at hl 1 rfl) ?_
    refine lv_i2f E.1 E.2.1 dX8_ownedShare_50 ?_
    refine lv_aload_n E.1 E.2.1 dX8_ownedShare_51 rfl (lv_at hl 0 rfl) ?_
    refine x_getr E h 0 0 1 rfl rfl rfl (by decide) xinX8 kw431 dX8_ownedShare_52 ?_
    refine x_get E h 1 0 rfl rfl rfl (by decide) xinX6 kw184 dX8_ownedShare_55 ?_
    refine lv_i2f E.1 E.2.1 dX8_ownedShare_58 ?_
    obtain ⟨hn, hf⟩ := xfn_in hf
    refine lv_fdiv E.1 E.2.1 dX8_ownedShare_59 hn ?_
    generalize FP.fdiv (FP.i2f v5) (FP.i2f (S 1 0)) = v7 at hf ⊢
    exact x_fret E h hf dX8_ownedShare_60
  · refine lv_fconst0 E.1 E.2.1 dX8_ownedShare_10 ?_
    exact x_fret E h hf dX8_ownedShare_11
set_option maxHeartbeats 4000000 in
set_option maxRecDepth 100000 in
theorem c_X8_violations (l : Launch) (D : va_G) (cy : Nat → ClassId) (s00 : State) (ad : Nat → Nat) (S : XS) (r9 : Int32) (hf : f_X8_violations S = some r9) : XI l yX8_violations cX8_violations 1 (some .int) 2 D cy s00 shCats ad S [.ref (ad 0)] r9 S := by
  refine XI.of (by decide) [(0, .ref (ad 0))] rfl (Nat.le_of_ble_eq_true rfl) (fun p e s m args below meth c A ls E h hl => ?_)
  unfold f_X8_violations at hf
  refine lv_aload_n E.1 E.2.1 dX8_violations_0 rfl (lv_at hl 0 rfl) ?_
  refine x_getr E h 0 0 1 rfl rfl rfl (by decide) xinX8 kw431 dX8_violations_1 ?_
  refine x_callop E h hl 1 1 hf (xsub_of rfl) (fun r0 hr => c_X6_fishMismatch l D cy s00 _ (xs 1 S)  r0 hr) m_X6_fishMismatch rfl rfl kw832 rfl rfl (Nat.le_of_ble_eq_true rfl) ⟨by decide, by decide⟩ ⟨Nat.zero_le _, Nat.zero_le _⟩ dX8_violations_4 (fun v1 H locs hf h => ?_)
  refine lv_aload_n E.1 E.2.1 dX8_violations_7 rfl (lv_at hl 0 rfl) ?_
  refine x_getr E h 0 0 1 rfl rfl rfl (by decide) xinX8 kw431 dX8_violations_8 ?_
  refine x_callop E h hl 1 1 hf (xsub_of rfl) (fun r0 hr => c_X6_sharedChimneys l D cy s00 _ (xs 1 S)  r0 hr) m_X6_sharedChimneys rfl rfl kw840 rfl rfl (Nat.le_of_ble_eq_true rfl) ⟨by decide, by decide⟩ ⟨Nat.zero_le _, Nat.zero_le _⟩ dX8_violations_11 (fun v2 H locs hf h => ?_)
  refine lv_iadd E.1 E.2.1 dX8_violations_14 ?_
  refine lv_aload_n E.1 E.2.1 dX8_violations_15 rfl (lv_at hl 0 rfl) ?_
  refine x_getr E h 0 0 1 rfl rfl rfl (by decide) xinX8 kw431 dX8_violations_16 ?_
  refine x_callop E h hl 1 1 hf (xsub_of rfl) (fun r0 hr => c_X6_brokenCats l D cy s00 _ (xs 1 S)  r0 hr) m_X6_brokenCats rfl rfl kw844 rfl rfl (Nat.le_of_ble_eq_true rfl) ⟨by decide, by decide⟩ ⟨Nat.zero_le _, Nat.zero_le _⟩ dX8_violations_19 (fun v3 H locs hf h => ?_)
  refine lv_iadd E.1 E.2.1 dX8_violations_22 ?_
  exact x_irp E h hf dX8_violations_23
set_option maxHeartbeats 4000000 in
set_option maxRecDepth 100000 in
theorem c_X8_writeRoof (l : Launch) (D : va_G) (cy : Nat → ClassId) (s00 : State) (ad : Nat → Nat) (S : XS) (r9 : Int32) (S9 : XS) (hf : f_X8_writeRoof S = some (r9, S9)) : XI l yX8_writeRoof cX8_writeRoof 1 (some .int) 3 D cy s00 shCats ad S [.ref (ad 0)] r9 S9 := by
  refine XI.of (by decide) [(0, .ref (ad 0))] rfl (Nat.le_of_ble_eq_true rfl) (fun p e s m args below meth c A ls E h hl => ?_)
  unfold f_X8_writeRoof at hf
  refine lv_aload_n E.1 E.2.1 dX8_writeRoof_0 rfl (lv_at hl 0 rfl) ?_
  refine x_getr E h 0 5 152 rfl rfl rfl (by decide) xinX8 kw436 dX8_writeRoof_1 ?_
  refine lv_aload_n E.1 E.2.1 dX8_writeRoof_4 rfl (lv_at hl 0 rfl) ?_
  refine x_getr E h 0 0 1 rfl rfl rfl (by decide) xinX8 kw431 dX8_writeRoof_5 ?_
  refine x_callFv (σ := xσ 152 2 1) (τ := xτ 152 2 1 13) E h hl 152 hf (xsubF_of (by decide +kernel)) (xinv_two (by omega)) (fun r0 hr => c_X5_write l D cy s00 _ _ r0 hr) m_X5_write rfl rfl kw852 rfl rfl (Nat.le_of_ble_eq_true rfl) ⟨by decide, by decide⟩ ⟨Nat.zero_le _, Nat.zero_le _⟩ dX8_writeRoof_8 (fun S1 H locs hf h => ?_)
  refine lv_aload_n E.1 E.2.1 dX8_writeRoof_11 rfl (lv_at hl 0 rfl) ?_
  refine x_getr E h 0 5 152 rfl rfl rfl (by decide) xinX8 kw436 dX8_writeRoof_12 ?_
  refine x_get E h 152 1 rfl rfl rfl (by decide) xinX5 kw357 dX8_writeRoof_15 ?_
  exact x_iret E h hf dX8_writeRoof_18
set_option maxHeartbeats 4000000 in
set_option maxRecDepth 100000 in
theorem c_X8_reportByte (l : Launch) (D : va_G) (cy : Nat → ClassId) (s00 : State) (ad : Nat → Nat) (S : XS) (p0 : Int32) (r9 : Int32) (hf : f_X8_reportByte S p0 = some r9) : XI l yX8_reportByte cX8_reportByte 2 (some .int) 0 D cy s00 shCats ad S [.ref (ad 0), .int p0] r9 S := by
  refine XI.of (by decide) [(0, .ref (ad 0)), (1, .int p0)] rfl (Nat.le_of_ble_eq_true rfl) (fun p e s m args below meth c A ls E h hl => ?_)
  unfold f_X8_reportByte at hf
  refine lv_iload_n E.1 E.2.1 dX8_reportByte_0 rfl (lv_at hl 1 rfl) ?_
  refine x_br hf (lv_if_lt (tgt := 15) E.1 E.2.1 dX8_reportByte_1 (by decide)) (fun hf => ?_) (fun hf => ?_)
  · refine lv_iconst (v := (-1)) E.1 E.2.1 dX8_reportByte_15 (by decide) ?_
    exact x_irp E h hf dX8_reportByte_16
  · refine lv_iload_n E.1 E.2.1 dX8_reportByte_4 rfl (lv_at hl 1 rfl) ?_
    refine lv_aload_n E.1 E.2.1 dX8_reportByte_5 rfl (lv_at hl 0 rfl) ?_
    refine x_getr E h 0 5 152 rfl rfl rfl (by decide) xinX8 kw436 dX8_reportByte_6 ?_
    refine x_get E h 152 1 rfl rfl rfl (by decide) xinX5 kw357 dX8_reportByte_9 ?_
    refine x_br hf (lv_icmp_lt (tgt := 17) E.1 E.2.1 dX8_reportByte_12 (by decide)) (fun hf => ?_) (fun hf => ?_)
    · refine lv_aload_n E.1 E.2.1 dX8_reportByte_17 rfl (lv_at hl 0 rfl) ?_
      refine x_getr E h 0 5 152 rfl rfl rfl (by decide) xinX8 kw436 dX8_reportByte_18 ?_
      refine x_getr E h 152 0 153 rfl rfl rfl (by decide) xinX5 kw355 dX8_reportByte_21 ?_
      refine lv_iload_n E.1 E.2.1 dX8_reportByte_24 rfl (lv_at hl 1 rfl) ?_
      refine x_bald E h 153 hf rfl dX8_reportByte_25 (fun v1 hf => ?_)
      exact x_irp E h hf dX8_reportByte_26
    · refine lv_iconst (v := (-1)) E.1 E.2.1 dX8_reportByte_15 (by decide) ?_
      exact x_irp E h hf dX8_reportByte_16
