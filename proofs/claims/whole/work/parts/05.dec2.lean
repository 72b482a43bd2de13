theorem dX8_choirCount_6 : decode cX8_choirCount 6 = .ok (.iload_n 3, 1) := by decide +kernel
theorem dX8_choirCount_7 : decode cX8_choirCount 7 = .ok (.aload_n 0, 1) := by decide +kernel
theorem dX8_choirCount_8 : decode cX8_choirCount 8 = .ok (.getfield 10, 3) := by decide +kernel
theorem dX8_choirCount_11 : decode cX8_choirCount 11 = .ok (.getfield 100, 3) := by decide +kernel
theorem dX8_choirCount_14 : decode cX8_choirCount 14 = .ok (.if_icmp .ge 31, 3) := by decide +kernel
theorem dX8_choirCount_17 : decode cX8_choirCount 17 = .ok (.iload_n 1, 1) := by decide +kernel
theorem dX8_choirCount_18 : decode cX8_choirCount 18 = .ok (.iload_n 3, 1) := by decide +kernel
theorem dX8_choirCount_19 : decode cX8_choirCount 19 = .ok (.ishr, 1) := by decide +kernel
theorem dX8_choirCount_20 : decode cX8_choirCount 20 = .ok (.iconst 1, 1) := by decide +kernel
theorem dX8_choirCount_21 : decode cX8_choirCount 21 = .ok (.iand, 1) := by decide +kernel
theorem dX8_choirCount_22 : decode cX8_choirCount 22 = .ok (.ifCond .ne 17, 3) := by decide +kernel
theorem dX8_choirCount_25 : decode cX8_choirCount 25 = .ok (.iload_n 1, 1) := by decide +kernel
theorem dX8_choirCount_26 : decode cX8_choirCount 26 = .ok (.aload_n 0, 1) := by decide +kernel
theorem dX8_choirCount_27 : decode cX8_choirCount 27 = .ok (.getfield 10, 3) := by decide +kernel
theorem dX8_choirCount_30 : decode cX8_choirCount 30 = .ok (.iload_n 3, 1) := by decide +kernel
theorem dX8_choirCount_31 : decode cX8_choirCount 31 = .ok (.invokevirtual 260, 3) := by decide +kernel
theorem dX8_choirCount_34 : decode cX8_choirCount 34 = .ok (.ior, 1) := by decide +kernel
theorem dX8_choirCount_35 : decode cX8_choirCount 35 = .ok (.istore_n 1, 1) := by decide +kernel
theorem dX8_choirCount_36 : decode cX8_choirCount 36 = .ok (.iinc 2 1, 3) := by decide +kernel
theorem dX8_choirCount_39 : decode cX8_choirCount 39 = .ok (.iinc 3 1, 3) := by decide +kernel
theorem dX8_choirCount_42 : decode cX8_choirCount 42 = .ok (.goto (-36), 3) := by decide +kernel
theorem dX8_choirCount_45 : decode cX8_choirCount 45 = .ok (.iload_n 2, 1) := by decide +kernel
theorem dX8_choirCount_46 : decode cX8_choirCount 46 = .ok (.ireturn, 1) := by decide +kernel
theorem dX8_largestChoir_0 : decode cX8_largestChoir 0 = .ok (.aload_n 0, 1) := by decide +kernel
theorem dX8_largestChoir_1 : decode cX8_largestChoir 1 = .ok (.getfield 10, 3) := by decide +kernel
theorem dX8_largestChoir_4 : decode cX8_largestChoir 4 = .ok (.invokevirtual 263, 3) := by decide +kernel
theorem dX8_largestChoir_7 : decode cX8_largestChoir 7 = .ok (.ireturn, 1) := by decide +kernel
theorem dX8_nightsToFullMoon_0 : decode cX8_nightsToFullMoon 0 = .ok (.iconst 4, 1) := by decide +kernel
theorem dX8_nightsToFullMoon_1 : decode cX8_nightsToFullMoon 1 = .ok (.aload_n 0, 1) := by decide +kernel
theorem dX8_nightsToFullMoon_2 : decode cX8_nightsToFullMoon 2 = .ok (.getfield 10, 3) := by decide +kernel
theorem dX8_nightsToFullMoon_5 : decode cX8_nightsToFullMoon 5 = .ok (.getfield 191, 3) := by decide +kernel
theorem dX8_nightsToFullMoon_8 : decode cX8_nightsToFullMoon 8 = .ok (.bipush 8, 2) := by decide +kernel
theorem dX8_nightsToFullMoon_10 : decode cX8_nightsToFullMoon 10 = .ok (.irem, 1) := by decide +kernel
theorem dX8_nightsToFullMoon_11 : decode cX8_nightsToFullMoon 11 = .ok (.isub, 1) := by decide +kernel
theorem dX8_nightsToFullMoon_12 : decode cX8_nightsToFullMoon 12 = .ok (.istore_n 1, 1) := by decide +kernel
theorem dX8_nightsToFullMoon_13 : decode cX8_nightsToFullMoon 13 = .ok (.iload_n 1, 1) := by decide +kernel
theorem dX8_nightsToFullMoon_14 : decode cX8_nightsToFullMoon 14 = .ok (.ifCond .le 7, 3) := by decide +kernel
theorem dX8_nightsToFullMoon_17 : decode cX8_nightsToFullMoon 17 = .ok (.iload_n 1, 1) := by decide +kernel
theorem dX8_nightsToFullMoon_18 : decode cX8_nightsToFullMoon 18 = .ok (.goto 7, 3) := by decide +kernel
theorem dX8_nightsToFullMoon_21 : decode cX8_nightsToFullMoon 21 = .ok (.iload_n 1, 1) := by decide +kernel
theorem dX8_nightsToFullMoon_22 : decode cX8_nightsToFullMoon 22 = .ok (.bipush 8, 2) := by decide +kernel
theorem dX8_nightsToFullMoon_24 : decode cX8_nightsToFullMoon 24 = .ok (.iadd, 1) := by decide +kernel
theorem dX8_nightsToFullMoon_25 : decode cX8_nightsToFullMoon 25 = .ok (.ireturn, 1) := by decide +kernel
theorem dX8_fishAfter_0 : decode cX8_fishAfter 0 = .ok (.aload_n 0, 1) := by decide +kernel
theorem dX8_fishAfter_1 : decode cX8_fishAfter 1 = .ok (.iload_n 1, 1) := by decide +kernel
theorem dX8_fishAfter_2 : decode cX8_fishAfter 2 = .ok (.invokevirtual 128, 3) := by decide +kernel
theorem dX8_fishAfter_5 : decode cX8_fishAfter 5 = .ok (.aload_n 0, 1) := by decide +kernel
theorem dX8_fishAfter_6 : decode cX8_fishAfter 6 = .ok (.iload_n 2, 1) := by decide +kernel
theorem dX8_fishAfter_7 : decode cX8_fishAfter 7 = .ok (.iconst 0, 1) := by decide +kernel
theorem dX8_fishAfter_8 : decode cX8_fishAfter 8 = .ok (.bipush 30, 2) := by decide +kernel
theorem dX8_fishAfter_10 : decode cX8_fishAfter 10 = .ok (.invokevirtual 103, 3) := by decide +kernel
theorem dX8_fishAfter_13 : decode cX8_fishAfter 13 = .ok (.aload_n 0, 1) := by decide +kernel
theorem dX8_fishAfter_14 : decode cX8_fishAfter 14 = .ok (.getfield 10, 3) := by decide +kernel
theorem dX8_fishAfter_17 : decode cX8_fishAfter 17 = .ok (.iload_n 1, 1) := by decide +kernel
theorem dX8_fishAfter_18 : decode cX8_fishAfter 18 = .ok (.iload_n 2, 1) := by decide +kernel
theorem dX8_fishAfter_19 : decode cX8_fishAfter 19 = .ok (.invokevirtual 266, 3) := by decide +kernel
theorem dX8_fishAfter_22 : decode cX8_fishAfter 22 = .ok (.ireturn, 1) := by decide +kernel
theorem dX8_richestCat_0 : decode cX8_richestCat 0 = .ok (.iconst (-1), 1) := by decide +kernel
theorem dX8_richestCat_1 : decode cX8_richestCat 1 = .ok (.istore_n 1, 1) := by decide +kernel
theorem dX8_richestCat_2 : decode cX8_richestCat 2 = .ok (.iconst (-1), 1) := by decide +kernel
theorem dX8_richestCat_3 : decode cX8_richestCat 3 = .ok (.istore_n 2, 1) := by decide +kernel
theorem dX8_richestCat_4 : decode cX8_richestCat 4 = .ok (.iconst 0, 1) := by decide +kernel
theorem dX8_richestCat_5 : decode cX8_richestCat 5 = .ok (.istore_n 3, 1) := by decide +kernel
theorem dX8_richestCat_6 : decode cX8_richestCat 6 = .ok (.iload_n 3, 1) := by decide +kernel
theorem dX8_richestCat_7 : decode cX8_richestCat 7 = .ok (.aload_n 0, 1) := by decide +kernel
theorem dX8_richestCat_8 : decode cX8_richestCat 8 = .ok (.getfield 10, 3) := by decide +kernel
theorem dX8_richestCat_11 : decode cX8_richestCat 11 = .ok (.getfield 100, 3) := by decide +kernel
theorem dX8_richestCat_14 : decode cX8_richestCat 14 = .ok (.if_icmp .ge 34, 3) := by decide +kernel
theorem dX8_richestCat_17 : decode cX8_richestCat 17 = .ok (.aload_n 0, 1) := by decide +kernel
theorem dX8_richestCat_18 : decode cX8_richestCat 18 = .ok (.getfield 10, 3) := by decide +kernel
theorem dX8_richestCat_21 : decode cX8_richestCat 21 = .ok (.getfield 233, 3) := by decide +kernel
theorem dX8_richestCat_24 : decode cX8_richestCat 24 = .ok (.iload_n 3, 1) := by decide +kernel
theorem dX8_richestCat_25 : decode cX8_richestCat 25 = .ok (.iaload, 1) := by decide +kernel
theorem dX8_richestCat_26 : decode cX8_richestCat 26 = .ok (.iload_n 2, 1) := by decide +kernel
theorem dX8_richestCat_27 : decode cX8_richestCat 27 = .ok (.if_icmp .le 15, 3) := by decide +kernel
theorem dX8_richestCat_30 : decode cX8_richestCat 30 = .ok (.iload_n 3, 1) := by decide +kernel
theorem dX8_richestCat_31 : decode cX8_richestCat 31 = .ok (.istore_n 1, 1) := by decide +kernel
theorem dX8_richestCat_32 : decode cX8_richestCat 32 = .ok (.aload_n 0, 1) := by decide +kernel
theorem dX8_richestCat_33 : decode cX8_richestCat 33 = .ok (.getfield 10, 3) := by decide +kernel
theorem dX8_richestCat_36 : decode cX8_richestCat 36 = .ok (.getfield 233, 3) := by decide +kernel
theorem dX8_richestCat_39 : decode cX8_richestCat 39 = .ok (.iload_n 3, 1) := by decide +kernel
theorem dX8_richestCat_40 : decode cX8_richestCat 40 = .ok (.iaload, 1) := by decide +kernel
theorem dX8_richestCat_41 : decode cX8_richestCat 41 = .ok (.istore_n 2, 1) := by decide +kernel
theorem dX8_richestCat_42 : decode cX8_richestCat 42 = .ok (.iinc 3 1, 3) := by decide +kernel
theorem dX8_richestCat_45 : decode cX8_richestCat 45 = .ok (.goto (-39), 3) := by decide +kernel
theorem dX8_richestCat_48 : decode cX8_richestCat 48 = .ok (.iload_n 1, 1) := by decide +kernel
theorem dX8_richestCat_49 : decode cX8_richestCat 49 = .ok (.ireturn, 1) := by decide +kernel
theorem dX8_totalFish_0 : decode cX8_totalFish 0 = .ok (.aload_n 0, 1) := by decide +kernel
theorem dX8_totalFish_1 : decode cX8_totalFish 1 = .ok (.getfield 10, 3) := by decide +kernel
theorem dX8_totalFish_4 : decode cX8_totalFish 4 = .ok (.invokevirtual 269, 3) := by decide +kernel
theorem dX8_totalFish_7 : decode cX8_totalFish 7 = .ok (.ireturn, 1) := by decide +kernel
theorem dX8_meanFish_0 : decode cX8_meanFish 0 = .ok (.aload_n 0, 1) := by decide +kernel
theorem dX8_meanFish_1 : decode cX8_meanFish 1 = .ok (.getfield 10, 3) := by decide +kernel
theorem dX8_meanFish_4 : decode cX8_meanFish 4 = .ok (.getfield 100, 3) := by decide +kernel
theorem dX8_meanFish_7 : decode cX8_meanFish 7 = .ok (.ifCond .ne 5, 3) := by decide +kernel
theorem dX8_meanFish_10 : decode cX8_meanFish 10 = .ok (.dconst 0, 1) := by decide +kernel
theorem dX8_meanFish_11 : decode cX8_meanFish 11 = .ok (.dreturn, 1) := by decide +kernel
theorem dX8_meanFish_12 : decode cX8_meanFish 12 = .ok (.aload_n 0, 1) := by decide +kernel
theorem dX8_meanFish_13 : decode cX8_meanFish 13 = .ok (.getfield 10, 3) := by decide +kernel
theorem dX8_meanFish_16 : decode cX8_meanFish 16 = .ok (.invokevirtual 269, 3) := by decide +kernel
theorem dX8_meanFish_19 : decode cX8_meanFish 19 = .ok (.i2d, 1) := by decide +kernel
theorem dX8_meanFish_20 : decode cX8_meanFish 20 = .ok (.aload_n 0, 1) := by decide +kernel
theorem dX8_meanFish_21 : decode cX8_meanFish 21 = .ok (.getfield 10, 3) := by decide +kernel
theorem dX8_meanFish_24 : decode cX8_meanFish 24 = .ok (.getfield 100, 3) := by decide +kernel
theorem dX8_meanFish_27 : decode cX8_meanFish 27 = .ok (.i2d, 1) := by decide +kernel
theorem dX8_meanFish_28 : decode cX8_meanFish 28 = .ok (.ddiv, 1) := by decide +kernel
theorem dX8_meanFish_29 : decode cX8_meanFish 29 = .ok (.dreturn, 1) := by decide +kernel
theorem dX8_ownedShare_0 : decode cX8_ownedShare 0 = .ok (.aload_n 0, 1) := by decide +kernel
theorem dX8_ownedShare_1 : decode cX8_ownedShare 1 = .ok (.getfield 10, 3) := by decide +kernel
theorem dX8_ownedShare_4 : decode cX8_ownedShare 4 = .ok (.getfield 107, 3) := by decide +kernel
theorem dX8_ownedShare_7 : decode cX8_ownedShare 7 = .ok (.ifCond .ne 5, 3) := by decide +kernel
theorem dX8_ownedShare_10 : decode cX8_ownedShare 10 = .ok (.fconst 0, 1) := by decide +kernel
theorem dX8_ownedShare_11 : decode cX8_ownedShare 11 = .ok (.freturn, 1) := by decide +kernel
theorem dX8_ownedShare_12 : decode cX8_ownedShare 12 = .ok (.iconst 0, 1) := by decide +kernel
theorem dX8_ownedShare_13 : decode cX8_ownedShare 13 = .ok (.istore_n 1, 1) := by decide +kernel
theorem dX8_ownedShare_14 : decode cX8_ownedShare 14 = .ok (.iconst 0, 1) := by decide +kernel
theorem dX8_ownedShare_15 : decode cX8_ownedShare 15 = .ok (.istore_n 2, 1) := by decide +kernel
theorem dX8_ownedShare_16 : decode cX8_ownedShare 16 = .ok (.iload_n 2, 1) := by decide +kernel
theorem dX8_ownedShare_17 : decode cX8_ownedShare 17 = .ok (.aload_n 0, 1) := by decide +kernel
theorem dX8_ownedShare_18 : decode cX8_ownedShare 18 = .ok (.getfield 10, 3) := by decide +kernel
theorem dX8_ownedShare_21 : decode cX8_ownedShare 21 = .ok (.getfield 107, 3) := by decide +kernel
theorem dX8_ownedShare_24 : decode cX8_ownedShare 24 = .ok (.if_icmp .ge 25, 3) := by decide +kernel
theorem dX8_ownedShare_27 : decode cX8_ownedShare 27 = .ok (.aload_n 0, 1) := by decide +kernel
theorem dX8_ownedShare_28 : decode cX8_ownedShare 28 = .ok (.getfield 10, 3) := by decide +kernel
theorem dX8_ownedShare_31 : decode cX8_ownedShare 31 = .ok (.getfield 144, 3) := by decide +kernel
theorem dX8_ownedShare_34 : decode cX8_ownedShare 34 = .ok (.iload_n 2, 1) := by decide +kernel
theorem dX8_ownedShare_35 : decode cX8_ownedShare 35 = .ok (.iaload, 1) := by decide +kernel
theorem dX8_ownedShare_36 : decode cX8_ownedShare 36 = .ok (.iconst (-1), 1) := by decide +kernel
theorem dX8_ownedShare_37 : decode cX8_ownedShare 37 = .ok (.if_icmp .eq 6, 3) := by decide +kernel
theorem dX8_ownedShare_40 : decode cX8_ownedShare 40 = .ok (.iinc 1 1, 3) := by decide +kernel
theorem dX8_ownedShare_43 : decode cX8_ownedShare 43 = .ok (.iinc 2 1, 3) := by decide +kernel
theorem dX8_ownedShare_46 : decode cX8_ownedShare 46 = .ok (.goto (-30), 3) := by decide +kernel
theorem dX8_ownedShare_49 : decode cX8_ownedShare 49 = .ok (.iload_n 1, 1) := by decide +kernel
theorem dX8_ownedShare_50 : decode cX8_ownedShare 50 = .ok (.i2f, 1) := by decide +kernel
theorem dX8_ownedShare_51 : decode cX8_ownedShare 51 = .ok (.aload_n 0, 1) := by decide +kernel
theorem dX8_ownedShare_52 : decode cX8_ownedShare 52 = .ok (.getfield 10, 3) := by decide +kernel
theorem dX8_ownedShare_55 : decode cX8_ownedShare 55 = .ok (.getfield 107, 3) := by decide +kernel
theorem dX8_ownedShare_58 : decode cX8_ownedShare 58 = .ok (.i2f, 1) := by decide +kernel
theorem dX8_ownedShare_59 : decode cX8_ownedShare 59 = .ok (.fdiv, 1) := by decide +kernel
theorem dX8_ownedShare_60 : decode cX8_ownedShare 60 = .ok (.freturn, 1) := by decide +kernel
theorem dX8_violations_0 : decode cX8_violations 0 = .ok (.aload_n 0, 1) := by decide +kernel
theorem dX8_violations_1 : decode cX8_violations 1 = .ok (.getfield 10, 3) := by decide +kernel
theorem dX8_violations_4 : decode cX8_violations 4 = .ok (.invokevirtual 272, 3) := by decide +kernel
theorem dX8_violations_7 : decode cX8_violations 7 = .ok (.aload_n 0, 1) := by decide +kernel
theorem dX8_violations_8 : decode cX8_violations 8 = .ok (.getfield 10, 3) := by decide +kernel
theorem dX8_violations_11 : decode cX8_violations 11 = .ok (.invokevirtual 275, 3) := by decide +kernel
theorem dX8_violations_14 : decode cX8_violations 14 = .ok (.iadd, 1) := by decide +kernel
theorem dX8_violations_15 : decode cX8_violations 15 = .ok (.aload_n 0, 1) := by decide +kernel
theorem dX8_violations_16 : decode cX8_violations 16 = .ok (.getfield 10, 3) := by decide +kernel
theorem dX8_violations_19 : decode cX8_violations 19 = .ok (.invokevirtual 278, 3) := by decide +kernel
theorem dX8_violations_22 : decode cX8_violations 22 = .ok (.iadd, 1) := by decide +kernel
theorem dX8_violations_23 : decode cX8_violations 23 = .ok (.ireturn, 1) := by decide +kernel
theorem dX8_writeRoof_0 : decode cX8_writeRoof 0 = .ok (.aload_n 0, 1) := by decide +kernel
theorem dX8_writeRoof_1 : decode cX8_writeRoof 1 = .ok (.getfield 40, 3) := by decide +kernel
theorem dX8_writeRoof_4 : decode cX8_writeRoof 4 = .ok (.aload_n 0, 1) := by decide +kernel
theorem dX8_writeRoof_5 : decode cX8_writeRoof 5 = .ok (.getfield 10, 3) := by decide +kernel
theorem dX8_writeRoof_8 : decode cX8_writeRoof 8 = .ok (.invokevirtual 281, 3) := by decide +kernel
theorem dX8_writeRoof_11 : decode cX8_writeRoof 11 = .ok (.aload_n 0, 1) := by decide +kernel
theorem dX8_writeRoof_12 : decode cX8_writeRoof 12 = .ok (.getfield 40, 3) := by decide +kernel
theorem dX8_writeRoof_15 : decode cX8_writeRoof 15 = .ok (.getfield 284, 3) := by decide +kernel
theorem dX8_writeRoof_18 : decode cX8_writeRoof 18 = .ok (.ireturn, 1) := by decide +kernel
theorem dX8_reportByte_0 : decode cX8_reportByte 0 = .ok (.iload_n 1, 1) := by decide +kernel
theorem dX8_reportByte_1 : decode cX8_reportByte 1 = .ok (.ifCond .lt 14, 3) := by decide +kernel
theorem dX8_reportByte_4 : decode cX8_reportByte 4 = .ok (.iload_n 1, 1) := by decide +kernel
theorem dX8_reportByte_5 : decode cX8_reportByte 5 = .ok (.aload_n 0, 1) := by decide +kernel
theorem dX8_reportByte_6 : decode cX8_reportByte 6 = .ok (.getfield 40, 3) := by decide +kernel
theorem dX8_reportByte_9 : decode cX8_reportByte 9 = .ok (.getfield 284, 3) := by decide +kernel
theorem dX8_reportByte_12 : decode cX8_reportByte 12 = .ok (.if_icmp .lt 5, 3) := by decide +kernel
theorem dX8_reportByte_15 : decode cX8_reportByte 15 = .ok (.iconst (-1), 1) := by decide +kernel
theorem dX8_reportByte_16 : decode cX8_reportByte 16 = .ok (.ireturn, 1) := by decide +kernel
theorem dX8_reportByte_17 : decode cX8_reportByte 17 = .ok (.aload_n 0, 1) := by decide +kernel
theorem dX8_reportByte_18 : decode cX8_reportByte 18 = .ok (.getfield 40, 3) := by decide +kernel
theorem dX8_reportByte_21 : decode cX8_reportByte 21 = .ok (.getfield 285, 3) := by decide +kernel
theorem dX8_reportByte_24 : decode cX8_reportByte 24 = .ok (.iload_n 1, 1) := by decide +kernel
theorem dX8_reportByte_25 : decode cX8_reportByte 25 = .ok (.baload, 1) := by decide +kernel
theorem dX8_reportByte_26 : decode cX8_reportByte 26 = .ok (.ireturn, 1) := by decide +kernel
theorem dX8_needChimney_0 : decode cX8_needChimney 0 = .ok (.aload_n 0, 1) := by decide +kernel
theorem dX8_needChimney_1 : decode cX8_needChimney 1 = .ok (.getfield 10, 3) := by decide +kernel
theorem dX8_needChimney_4 : decode cX8_needChimney 4 = .ok (.iload_n 1, 1) := by decide +kernel
theorem dX8_needChimney_5 : decode cX8_needChimney 5 = .ok (.invokevirtual 289, 3) := by decide +kernel
theorem dX8_needChimney_8 : decode cX8_needChimney 8 = .ok (.ifCond .ne 14, 3) := by decide +kernel
theorem dX8_needChimney_11 : decode cX8_needChimney 11 = .ok (.new 292, 3) := by decide +kernel
theorem dX8_needChimney_14 : decode cX8_needChimney 14 = .ok (.dup, 1) := by decide +kernel
theorem dX8_needChimney_15 : decode cX8_needChimney 15 = .ok (.ldc_w 294, 3) := by decide +kernel
theorem dX8_needChimney_18 : decode cX8_needChimney 18 = .ok (.invokespecial 296, 3) := by decide +kernel
theorem dX8_needChimney_21 : decode cX8_needChimney 21 = .ok (.athrow, 1) := by decide +kernel
theorem dX8_needChimney_22 : decode cX8_needChimney 22 = .ok (.return_, 1) := by decide +kernel
theorem dX8_needGutter_0 : decode cX8_needGutter 0 = .ok (.aload_n 0, 1) := by decide +kernel
theorem dX8_needGutter_1 : decode cX8_needGutter 1 = .ok (.getfield 10, 3) := by decide +kernel
theorem dX8_needGutter_4 : decode cX8_needGutter 4 = .ok (.iload_n 1, 1) := by decide +kernel
theorem dX8_needGutter_5 : decode cX8_needGutter 5 = .ok (.invokevirtual 297, 3) := by decide +kernel
theorem dX8_needGutter_8 : decode cX8_needGutter 8 = .ok (.ifCond .ne 14, 3) := by decide +kernel
theorem dX8_needGutter_11 : decode cX8_needGutter 11 = .ok (.new 292, 3) := by decide +kernel
theorem dX8_needGutter_14 : decode cX8_needGutter 14 = .ok (.dup, 1) := by decide +kernel
theorem dX8_needGutter_15 : decode cX8_needGutter 15 = .ok (.ldc_w 300, 3) := by decide +kernel
theorem dX8_needGutter_18 : decode cX8_needGutter 18 = .ok (.invokespecial 296, 3) := by decide +kernel
theorem dX8_needGutter_21 : decode cX8_needGutter 21 = .ok (.athrow, 1) := by decide +kernel
theorem dX8_needGutter_22 : decode cX8_needGutter 22 = .ok (.return_, 1) := by decide +kernel
theorem dX8_needCat_0 : decode cX8_needCat 0 = .ok (.aload_n 0, 1) := by decide +kernel
theorem dX8_needCat_1 : decode cX8_needCat 1 = .ok (.getfield 10, 3) := by decide +kernel
theorem dX8_needCat_4 : decode cX8_needCat 4 = .ok (.iload_n 1, 1) := by decide +kernel
theorem dX8_needCat_5 : decode cX8_needCat 5 = .ok (.invokevirtual 302, 3) := by decide +kernel
theorem dX8_needCat_8 : decode cX8_needCat 8 = .ok (.ifCond .ne 14, 3) := by decide +kernel
theorem dX8_needCat_11 : decode cX8_needCat 11 = .ok (.new 292, 3) := by decide +kernel
theorem dX8_needCat_14 : decode cX8_needCat 14 = .ok (.dup, 1) := by decide +kernel
theorem dX8_needCat_15 : decode cX8_needCat 15 = .ok (.ldc_w 305, 3) := by decide +kernel
theorem dX8_needCat_18 : decode cX8_needCat 18 = .ok (.invokespecial 296, 3) := by decide +kernel
theorem dX8_needCat_21 : decode cX8_needCat 21 = .ok (.athrow, 1) := by decide +kernel
theorem dX8_needCat_22 : decode cX8_needCat 22 = .ok (.return_, 1) := by decide +kernel
theorem dX8_needTwo_0 : decode cX8_needTwo 0 = .ok (.iload_n 1, 1) := by decide +kernel
theorem dX8_needTwo_1 : decode cX8_needTwo 1 = .ok (.iload_n 2, 1) := by decide +kernel
theorem dX8_needTwo_2 : decode cX8_needTwo 2 = .ok (.if_icmp .ne 14, 3) := by decide +kernel
theorem dX8_needTwo_5 : decode cX8_needTwo 5 = .ok (.new 79, 3) := by decide +kernel
theorem dX8_needTwo_8 : decode cX8_needTwo 8 = .ok (.dup, 1) := by decide +kernel
theorem dX8_needTwo_9 : decode cX8_needTwo 9 = .ok (.ldc_w 307, 3) := by decide +kernel
theorem dX8_needTwo_12 : decode cX8_needTwo 12 = .ok (.invokespecial 83, 3) := by decide +kernel
theorem dX8_needTwo_15 : decode cX8_needTwo 15 = .ok (.athrow, 1) := by decide +kernel
theorem dX8_needTwo_16 : decode cX8_needTwo 16 = .ok (.return_, 1) := by decide +kernel
theorem dX8_needRange_0 : decode cX8_needRange 0 = .ok (.iload_n 1, 1) := by decide +kernel
theorem dX8_needRange_1 : decode cX8_needRange 1 = .ok (.iload_n 2, 1) := by decide +kernel
theorem dX8_needRange_2 : decode cX8_needRange 2 = .ok (.if_icmp .lt 8, 3) := by decide +kernel
theorem dX8_needRange_5 : decode cX8_needRange 5 = .ok (.iload_n 1, 1) := by decide +kernel
theorem dX8_needRange_6 : decode cX8_needRange 6 = .ok (.iload_n 3, 1) := by decide +kernel
theorem dX8_needRange_7 : decode cX8_needRange 7 = .ok (.if_icmp .le 14, 3) := by decide +kernel
theorem dX8_needRange_10 : decode cX8_needRange 10 = .ok (.new 79, 3) := by decide +kernel
theorem dX8_needRange_13 : decode cX8_needRange 13 = .ok (.dup, 1) := by decide +kernel
theorem dX8_needRange_14 : decode cX8_needRange 14 = .ok (.ldc_w 309, 3) := by decide +kernel
theorem dX8_needRange_17 : decode cX8_needRange 17 = .ok (.invokespecial 83, 3) := by decide +kernel
theorem dX8_needRange_20 : decode cX8_needRange 20 = .ok (.athrow, 1) := by decide +kernel
theorem dX8_needRange_21 : decode cX8_needRange 21 = .ok (.return_, 1) := by decide +kernel
theorem dX8_refuseIf_0 : decode cX8_refuseIf 0 = .ok (.iload_n 1, 1) := by decide +kernel
theorem dX8_refuseIf_1 : decode cX8_refuseIf 1 = .ok (.ifCond .eq 14, 3) := by decide +kernel
theorem dX8_refuseIf_4 : decode cX8_refuseIf 4 = .ok (.new 311, 3) := by decide +kernel
theorem dX8_refuseIf_7 : decode cX8_refuseIf 7 = .ok (.dup, 1) := by decide +kernel
theorem dX8_refuseIf_8 : decode cX8_refuseIf 8 = .ok (.ldc_w 313, 3) := by decide +kernel
theorem dX8_refuseIf_11 : decode cX8_refuseIf 11 = .ok (.invokespecial 315, 3) := by decide +kernel
theorem dX8_refuseIf_14 : decode cX8_refuseIf 14 = .ok (.athrow, 1) := by decide +kernel
theorem dX8_refuseIf_15 : decode cX8_refuseIf 15 = .ok (.return_, 1) := by decide +kernel
theorem dX9_init_0 : decode cX9_init 0 = .ok (.aload_n 0, 1) := by decide +kernel
theorem dX9_init_1 : decode cX9_init 1 = .ok (.invokespecial 1, 3) := by decide +kernel
theorem dX9_init_4 : decode cX9_init 4 = .ok (.aload_n 0, 1) := by decide +kernel
theorem dX9_init_5 : decode cX9_init 5 = .ok (.sipush 186, 3) := by decide +kernel
theorem dX9_init_8 : decode cX9_init 8 = .ok (.newarray .int, 2) := by decide +kernel
theorem dX9_init_10 : decode cX9_init 10 = .ok (.putfield 7, 3) := by decide +kernel
theorem dX9_init_13 : decode cX9_init 13 = .ok (.aload_n 0, 1) := by decide +kernel
theorem dX9_init_14 : decode cX9_init 14 = .ok (.sipush 186, 3) := by decide +kernel
theorem dX9_init_17 : decode cX9_init 17 = .ok (.newarray .int, 2) := by decide +kernel
theorem dX9_init_19 : decode cX9_init 19 = .ok (.putfield 13, 3) := by decide +kernel
theorem dX9_init_22 : decode cX9_init 22 = .ok (.aload_n 0, 1) := by decide +kernel
theorem dX9_init_23 : decode cX9_init 23 = .ok (.sipush 186, 3) := by decide +kernel
theorem dX9_init_26 : decode cX9_init 26 = .ok (.newarray .int, 2) := by decide +kernel
theorem dX9_init_28 : decode cX9_init 28 = .ok (.putfield 16, 3) := by decide +kernel
theorem dX9_init_31 : decode cX9_init 31 = .ok (.aload_n 0, 1) := by decide +kernel
theorem dX9_init_32 : decode cX9_init 32 = .ok (.sipush 1488, 3) := by decide +kernel
theorem dX9_init_35 : decode cX9_init 35 = .ok (.newarray .int, 2) := by decide +kernel
theorem dX9_init_37 : decode cX9_init 37 = .ok (.putfield 19, 3) := by decide +kernel
theorem dX9_init_40 : decode cX9_init 40 = .ok (.aload_n 0, 1) := by decide +kernel
theorem dX9_init_41 : decode cX9_init 41 = .ok (.sipush 186, 3) := by decide +kernel
theorem dX9_init_44 : decode cX9_init 44 = .ok (.newarray .int, 2) := by decide +kernel
theorem dX9_init_46 : decode cX9_init 46 = .ok (.putfield 22, 3) := by decide +kernel
theorem dX9_init_49 : decode cX9_init 49 = .ok (.aload_n 0, 1) := by decide +kernel
theorem dX9_init_50 : decode cX9_init 50 = .ok (.sipush 600, 3) := by decide +kernel
theorem dX9_init_53 : decode cX9_init 53 = .ok (.newarray .int, 2) := by decide +kernel
theorem dX9_init_55 : decode cX9_init 55 = .ok (.putfield 25, 3) := by decide +kernel
theorem dX9_init_58 : decode cX9_init 58 = .ok (.aload_n 0, 1) := by decide +kernel
theorem dX9_init_59 : decode cX9_init 59 = .ok (.sipush 600, 3) := by decide +kernel
theorem dX9_init_62 : decode cX9_init 62 = .ok (.newarray .int, 2) := by decide +kernel
theorem dX9_init_64 : decode cX9_init 64 = .ok (.putfield 28, 3) := by decide +kernel
theorem dX9_init_67 : decode cX9_init 67 = .ok (.aload_n 0, 1) := by decide +kernel
theorem dX9_init_68 : decode cX9_init 68 = .ok (.bipush 10, 2) := by decide +kernel
theorem dX9_init_70 : decode cX9_init 70 = .ok (.newarray .int, 2) := by decide +kernel
theorem dX9_init_72 : decode cX9_init 72 = .ok (.putfield 31, 3) := by decide +kernel
theorem dX9_init_75 : decode cX9_init 75 = .ok (.aload_n 0, 1) := by decide +kernel
theorem dX9_init_76 : decode cX9_init 76 = .ok (.iconst (-1), 1) := by decide +kernel
theorem dX9_init_77 : decode cX9_init 77 = .ok (.putfield 34, 3) := by decide +kernel
theorem dX9_init_80 : decode cX9_init 80 = .ok (.aload_n 0, 1) := by decide +kernel
theorem dX9_init_81 : decode cX9_init 81 = .ok (.bipush 80, 2) := by decide +kernel
theorem dX9_init_83 : decode cX9_init 83 = .ok (.newarray .char, 2) := by decide +kernel
theorem dX9_init_85 : decode cX9_init 85 = .ok (.putfield 38, 3) := by decide +kernel
theorem dX9_init_88 : decode cX9_init 88 = .ok (.aload_n 0, 1) := by decide +kernel
theorem dX9_init_89 : decode cX9_init 89 = .ok (.iconst 4, 1) := by decide +kernel
theorem dX9_init_90 : decode cX9_init 90 = .ok (.newarray .int, 2) := by decide +kernel
theorem dX9_init_92 : decode cX9_init 92 = .ok (.putfield 42, 3) := by decide +kernel
theorem dX9_init_95 : decode cX9_init 95 = .ok (.aload_n 0, 1) := by decide +kernel
theorem dX9_init_96 : decode cX9_init 96 = .ok (.ldc 45, 2) := by decide +kernel
theorem dX9_init_98 : decode cX9_init 98 = .ok (.invokevirtual 47, 3) := by decide +kernel
theorem dX9_init_101 : decode cX9_init 101 = .ok (.aload_n 0, 1) := by decide +kernel
theorem dX9_init_102 : decode cX9_init 102 = .ok (.ldc 51, 2) := by decide +kernel
theorem dX9_init_104 : decode cX9_init 104 = .ok (.invokevirtual 47, 3) := by decide +kernel
theorem dX9_init_107 : decode cX9_init 107 = .ok (.aload_n 0, 1) := by decide +kernel
theorem dX9_init_108 : decode cX9_init 108 = .ok (.invokevirtual 53, 3) := by decide +kernel
theorem dX9_init_111 : decode cX9_init 111 = .ok (.pop, 1) := by decide +kernel
theorem dX9_init_112 : decode cX9_init 112 = .ok (.aload_n 0, 1) := by decide +kernel
theorem dX9_init_113 : decode cX9_init 113 = .ok (.iconst 0, 1) := by decide +kernel
theorem dX9_init_114 : decode cX9_init 114 = .ok (.putfield 57, 3) := by decide +kernel
theorem dX9_init_117 : decode cX9_init 117 = .ok (.return_, 1) := by decide +kernel
theorem dX9_thrown_0 : decode cX9_thrown 0 = .ok (.aload_n 0, 1) := by decide +kernel
theorem dX9_thrown_1 : decode cX9_thrown 1 = .ok (.getfield 57, 3) := by decide +kernel
theorem dX9_thrown_4 : decode cX9_thrown 4 = .ok (.ireturn, 1) := by decide +kernel
theorem dX9_in_0 : decode cX9_in 0 = .ok (.iload_n 0, 1) := by decide +kernel
theorem dX9_in_1 : decode cX9_in 1 = .ok (.iload_n 1, 1) := by decide +kernel
theorem dX9_in_2 : decode cX9_in 2 = .ok (.if_icmp .lt 12, 3) := by decide +kernel
theorem dX9_in_5 : decode cX9_in 5 = .ok (.iload_n 0, 1) := by decide +kernel
theorem dX9_in_6 : decode cX9_in 6 = .ok (.iload_n 2, 1) := by decide +kernel
theorem dX9_in_7 : decode cX9_in 7 = .ok (.if_icmp .gt 7, 3) := by decide +kernel
theorem dX9_in_10 : decode cX9_in 10 = .ok (.iconst 1, 1) := by decide +kernel
theorem dX9_in_11 : decode cX9_in 11 = .ok (.goto 4, 3) := by decide +kernel
theorem dX9_in_14 : decode cX9_in 14 = .ok (.iconst 0, 1) := by decide +kernel
theorem dX9_in_15 : decode cX9_in 15 = .ok (.ireturn, 1) := by decide +kernel
theorem dX9_throwsOne_0 : decode cX9_throwsOne 0 = .ok (.aload_n 0, 1) := by decide +kernel
theorem dX9_throwsOne_1 : decode cX9_throwsOne 1 = .ok (.iload_n 1, 1) := by decide +kernel
theorem dX9_throwsOne_2 : decode cX9_throwsOne 2 = .ok (.ifCond .eq 7, 3) := by decide +kernel
theorem dX9_throwsOne_5 : decode cX9_throwsOne 5 = .ok (.iconst 1, 1) := by decide +kernel
theorem dX9_throwsOne_6 : decode cX9_throwsOne 6 = .ok (.goto 4, 3) := by decide +kernel
theorem dX9_throwsOne_9 : decode cX9_throwsOne 9 = .ok (.iconst 0, 1) := by decide +kernel
theorem dX9_throwsOne_10 : decode cX9_throwsOne 10 = .ok (.putfield 57, 3) := by decide +kernel
theorem dX9_throwsOne_13 : decode cX9_throwsOne 13 = .ok (.iload_n 1, 1) := by decide +kernel
theorem dX9_throwsOne_14 : decode cX9_throwsOne 14 = .ok (.ireturn, 1) := by decide +kernel
theorem dX9_throwsOne__0 : decode cX9_throwsOne_ 0 = .ok (.aload_n 0, 1) := by decide +kernel
theorem dX9_throwsOne__1 : decode cX9_throwsOne_ 1 = .ok (.iload_n 1, 1) := by decide +kernel
theorem dX9_throwsOne__2 : decode cX9_throwsOne_ 2 = .ok (.ifCond .eq 7, 3) := by decide +kernel
theorem dX9_throwsOne__5 : decode cX9_throwsOne_ 5 = .ok (.iconst 1, 1) := by decide +kernel
theorem dX9_throwsOne__6 : decode cX9_throwsOne_ 6 = .ok (.goto 12, 3) := by decide +kernel
theorem dX9_throwsOne__9 : decode cX9_throwsOne_ 9 = .ok (.iload_n 2, 1) := by decide +kernel
theorem dX9_throwsOne__10 : decode cX9_throwsOne_ 10 = .ok (.ifCond .eq 7, 3) := by decide +kernel
theorem dX9_throwsOne__13 : decode cX9_throwsOne_ 13 = .ok (.iconst 2, 1) := by decide +kernel
theorem dX9_throwsOne__14 : decode cX9_throwsOne_ 14 = .ok (.goto 4, 3) := by decide +kernel
theorem dX9_throwsOne__17 : decode cX9_throwsOne_ 17 = .ok (.iconst 0, 1) := by decide +kernel
theorem dX9_throwsOne__18 : decode cX9_throwsOne_ 18 = .ok (.putfield 57, 3) := by decide +kernel
theorem dX9_throwsOne__21 : decode cX9_throwsOne_ 21 = .ok (.iload_n 1, 1) := by decide +kernel
theorem dX9_throwsOne__22 : decode cX9_throwsOne_ 22 = .ok (.ifCond .ne 7, 3) := by decide +kernel
theorem dX9_throwsOne__25 : decode cX9_throwsOne_ 25 = .ok (.iload_n 2, 1) := by decide +kernel
theorem dX9_throwsOne__26 : decode cX9_throwsOne_ 26 = .ok (.ifCond .eq 7, 3) := by decide +kernel
theorem dX9_throwsOne__29 : decode cX9_throwsOne_ 29 = .ok (.iconst 1, 1) := by decide +kernel
theorem dX9_throwsOne__30 : decode cX9_throwsOne_ 30 = .ok (.goto 4, 3) := by decide +kernel
theorem dX9_throwsOne__33 : decode cX9_throwsOne_ 33 = .ok (.iconst 0, 1) := by decide +kernel
theorem dX9_throwsOne__34 : decode cX9_throwsOne_ 34 = .ok (.ireturn, 1) := by decide +kernel
theorem dX9_throwsOne___0 : decode cX9_throwsOne__ 0 = .ok (.aload_n 0, 1) := by decide +kernel
theorem dX9_throwsOne___1 : decode cX9_throwsOne__ 1 = .ok (.iload_n 1, 1) := by decide +kernel
theorem dX9_throwsOne___2 : decode cX9_throwsOne__ 2 = .ok (.ifCond .eq 7, 3) := by decide +kernel
theorem dX9_throwsOne___5 : decode cX9_throwsOne__ 5 = .ok (.iconst 1, 1) := by decide +kernel
theorem dX9_throwsOne___6 : decode cX9_throwsOne__ 6 = .ok (.goto 20, 3) := by decide +kernel
theorem dX9_throwsOne___9 : decode cX9_throwsOne__ 9 = .ok (.iload_n 2, 1) := by decide +kernel
theorem dX9_throwsOne___10 : decode cX9_throwsOne__ 10 = .ok (.ifCond .eq 7, 3) := by decide +kernel
theorem dX9_throwsOne___13 : decode cX9_throwsOne__ 13 = .ok (.iconst 2, 1) := by decide +kernel
theorem dX9_throwsOne___14 : decode cX9_throwsOne__ 14 = .ok (.goto 12, 3) := by decide +kernel
theorem dX9_throwsOne___17 : decode cX9_throwsOne__ 17 = .ok (.iload_n 3, 1) := by decide +kernel
theorem dX9_throwsOne___18 : decode cX9_throwsOne__ 18 = .ok (.ifCond .eq 7, 3) := by decide +kernel
theorem dX9_throwsOne___21 : decode cX9_throwsOne__ 21 = .ok (.iconst 3, 1) := by decide +kernel
theorem dX9_throwsOne___22 : decode cX9_throwsOne__ 22 = .ok (.goto 4, 3) := by decide +kernel
theorem dX9_throwsOne___25 : decode cX9_throwsOne__ 25 = .ok (.iconst 0, 1) := by decide +kernel
theorem dX9_throwsOne___26 : decode cX9_throwsOne__ 26 = .ok (.putfield 57, 3) := by decide +kernel
theorem dX9_throwsOne___29 : decode cX9_throwsOne__ 29 = .ok (.iload_n 1, 1) := by decide +kernel
theorem dX9_throwsOne___30 : decode cX9_throwsOne__ 30 = .ok (.ifCond .ne 11, 3) := by decide +kernel
theorem dX9_throwsOne___33 : decode cX9_throwsOne__ 33 = .ok (.iload_n 2, 1) := by decide +kernel
theorem dX9_throwsOne___34 : decode cX9_throwsOne__ 34 = .ok (.ifCond .ne 7, 3) := by decide +kernel
theorem dX9_throwsOne___37 : decode cX9_throwsOne__ 37 = .ok (.iload_n 3, 1) := by decide +kernel
theorem dX9_throwsOne___38 : decode cX9_throwsOne__ 38 = .ok (.ifCond .eq 7, 3) := by decide +kernel
theorem dX9_throwsOne___41 : decode cX9_throwsOne__ 41 = .ok (.iconst 1, 1) := by decide +kernel
theorem dX9_throwsOne___42 : decode cX9_throwsOne__ 42 = .ok (.goto 4, 3) := by decide +kernel
theorem dX9_throwsOne___45 : decode cX9_throwsOne__ 45 = .ok (.iconst 0, 1) := by decide +kernel
theorem dX9_throwsOne___46 : decode cX9_throwsOne__ 46 = .ok (.ireturn, 1) := by decide +kernel
theorem dX9_isChimney_0 : decode cX9_isChimney 0 = .ok (.iload_n 1, 1) := by decide +kernel
theorem dX9_isChimney_1 : decode cX9_isChimney 1 = .ok (.iconst 0, 1) := by decide +kernel
theorem dX9_isChimney_2 : decode cX9_isChimney 2 = .ok (.aload_n 0, 1) := by decide +kernel
theorem dX9_isChimney_3 : decode cX9_isChimney 3 = .ok (.getfield 7, 3) := by decide +kernel
theorem dX9_isChimney_6 : decode cX9_isChimney 6 = .ok (.iconst 0, 1) := by decide +kernel
theorem dX9_isChimney_7 : decode cX9_isChimney 7 = .ok (.iaload, 1) := by decide +kernel
theorem dX9_isChimney_8 : decode cX9_isChimney 8 = .ok (.iconst 1, 1) := by decide +kernel
theorem dX9_isChimney_9 : decode cX9_isChimney 9 = .ok (.isub, 1) := by decide +kernel
theorem dX9_isChimney_10 : decode cX9_isChimney 10 = .ok (.invokestatic 60, 3) := by decide +kernel
theorem dX9_isChimney_13 : decode cX9_isChimney 13 = .ok (.ireturn, 1) := by decide +kernel
theorem dX9_isGutter_0 : decode cX9_isGutter 0 = .ok (.iload_n 1, 1) := by decide +kernel
theorem dX9_isGutter_1 : decode cX9_isGutter 1 = .ok (.iconst 0, 1) := by decide +kernel
theorem dX9_isGutter_2 : decode cX9_isGutter 2 = .ok (.aload_n 0, 1) := by decide +kernel
theorem dX9_isGutter_3 : decode cX9_isGutter 3 = .ok (.getfield 7, 3) := by decide +kernel
theorem dX9_isGutter_6 : decode cX9_isGutter 6 = .ok (.iconst 1, 1) := by decide +kernel
theorem dX9_isGutter_7 : decode cX9_isGutter 7 = .ok (.iaload, 1) := by decide +kernel
theorem dX9_isGutter_8 : decode cX9_isGutter 8 = .ok (.iconst 1, 1) := by decide +kernel
theorem dX9_isGutter_9 : decode cX9_isGutter 9 = .ok (.isub, 1) := by decide +kernel
theorem dX9_isGutter_10 : decode cX9_isGutter 10 = .ok (.invokestatic 60, 3) := by decide +kernel
theorem dX9_isGutter_13 : decode cX9_isGutter 13 = .ok (.ireturn, 1) := by decide +kernel
theorem dX9_isCat_0 : decode cX9_isCat 0 = .ok (.iload_n 1, 1) := by decide +kernel
theorem dX9_isCat_1 : decode cX9_isCat 1 = .ok (.iconst 0, 1) := by decide +kernel
theorem dX9_isCat_2 : decode cX9_isCat 2 = .ok (.aload_n 0, 1) := by decide +kernel
theorem dX9_isCat_3 : decode cX9_isCat 3 = .ok (.getfield 7, 3) := by decide +kernel
theorem dX9_isCat_6 : decode cX9_isCat 6 = .ok (.iconst 2, 1) := by decide +kernel
theorem dX9_isCat_7 : decode cX9_isCat 7 = .ok (.iaload, 1) := by decide +kernel
theorem dX9_isCat_8 : decode cX9_isCat 8 = .ok (.iconst 1, 1) := by decide +kernel
theorem dX9_isCat_9 : decode cX9_isCat 9 = .ok (.isub, 1) := by decide +kernel
theorem dX9_isCat_10 : decode cX9_isCat 10 = .ok (.invokestatic 60, 3) := by decide +kernel
theorem dX9_isCat_13 : decode cX9_isCat 13 = .ok (.ireturn, 1) := by decide +kernel
theorem dX9_gutter_0 : decode cX9_gutter 0 = .ok (.aload_n 0, 1) := by decide +kernel
theorem dX9_gutter_1 : decode cX9_gutter 1 = .ok (.getfield 7, 3) := by decide +kernel
theorem dX9_gutter_4 : decode cX9_gutter 4 = .ok (.bipush 30, 2) := by decide +kernel
theorem dX9_gutter_6 : decode cX9_gutter 6 = .ok (.iconst 3, 1) := by decide +kernel
theorem dX9_gutter_7 : decode cX9_gutter 7 = .ok (.iload_n 1, 1) := by decide +kernel
theorem dX9_gutter_8 : decode cX9_gutter 8 = .ok (.imul, 1) := by decide +kernel
theorem dX9_gutter_9 : decode cX9_gutter 9 = .ok (.iadd, 1) := by decide +kernel
theorem dX9_gutter_10 : decode cX9_gutter 10 = .ok (.iload_n 2, 1) := by decide +kernel
theorem dX9_gutter_11 : decode cX9_gutter 11 = .ok (.iadd, 1) := by decide +kernel
theorem dX9_gutter_12 : decode cX9_gutter 12 = .ok (.iaload, 1) := by decide +kernel
theorem dX9_gutter_13 : decode cX9_gutter 13 = .ok (.ireturn, 1) := by decide +kernel
theorem dX9_of_0 : decode cX9_of 0 = .ok (.aload_n 0, 1) := by decide +kernel
theorem dX9_of_1 : decode cX9_of 1 = .ok (.getfield 7, 3) := by decide +kernel
theorem dX9_of_4 : decode cX9_of 4 = .ok (.bipush 90, 2) := by decide +kernel
theorem dX9_of_6 : decode cX9_of 6 = .ok (.iconst 4, 1) := by decide +kernel
theorem dX9_of_7 : decode cX9_of 7 = .ok (.iload_n 1, 1) := by decide +kernel
theorem dX9_of_8 : decode cX9_of 8 = .ok (.imul, 1) := by decide +kernel
theorem dX9_of_9 : decode cX9_of 9 = .ok (.iadd, 1) := by decide +kernel
theorem dX9_of_10 : decode cX9_of 10 = .ok (.iload_n 2, 1) := by decide +kernel
theorem dX9_of_11 : decode cX9_of 11 = .ok (.iadd, 1) := by decide +kernel
theorem dX9_of_12 : decode cX9_of 12 = .ok (.iaload, 1) := by decide +kernel
theorem dX9_of_13 : decode cX9_of 13 = .ok (.ireturn, 1) := by decide +kernel
theorem dX9_to_0 : decode cX9_to 0 = .ok (.aload_n 0, 1) := by decide +kernel
theorem dX9_to_1 : decode cX9_to 1 = .ok (.getfield 7, 3) := by decide +kernel
theorem dX9_to_4 : decode cX9_to 4 = .ok (.bipush 90, 2) := by decide +kernel
theorem dX9_to_6 : decode cX9_to 6 = .ok (.iconst 4, 1) := by decide +kernel
theorem dX9_to_7 : decode cX9_to 7 = .ok (.iload_n 1, 1) := by decide +kernel
theorem dX9_to_8 : decode cX9_to 8 = .ok (.imul, 1) := by decide +kernel
theorem dX9_to_9 : decode cX9_to 9 = .ok (.iadd, 1) := by decide +kernel
theorem dX9_to_10 : decode cX9_to 10 = .ok (.iload_n 2, 1) := by decide +kernel
theorem dX9_to_11 : decode cX9_to 11 = .ok (.iadd, 1) := by decide +kernel
theorem dX9_to_12 : decode cX9_to 12 = .ok (.iload_n 3, 1) := by decide +kernel
theorem dX9_to_13 : decode cX9_to 13 = .ok (.iastore, 1) := by decide +kernel
theorem dX9_to_14 : decode cX9_to 14 = .ok (.return_, 1) := by decide +kernel
theorem dX9_owner_0 : decode cX9_owner 0 = .ok (.aload_n 0, 1) := by decide +kernel
theorem dX9_owner_1 : decode cX9_owner 1 = .ok (.getfield 7, 3) := by decide +kernel
theorem dX9_owner_4 : decode cX9_owner 4 = .ok (.bipush 20, 2) := by decide +kernel
theorem dX9_owner_6 : decode cX9_owner 6 = .ok (.iload_n 1, 1) := by decide +kernel
theorem dX9_owner_7 : decode cX9_owner 7 = .ok (.iadd, 1) := by decide +kernel
theorem dX9_owner_8 : decode cX9_owner 8 = .ok (.iaload, 1) := by decide +kernel
theorem dX9_owner_9 : decode cX9_owner 9 = .ok (.ireturn, 1) := by decide +kernel
theorem dX9_sitter_0 : decode cX9_sitter 0 = .ok (.iconst 0, 1) := by decide +kernel
theorem dX9_sitter_1 : decode cX9_sitter 1 = .ok (.istore_n 2, 1) := by decide +kernel
theorem dX9_sitter_2 : decode cX9_sitter 2 = .ok (.iload_n 2, 1) := by decide +kernel
theorem dX9_sitter_3 : decode cX9_sitter 3 = .ok (.aload_n 0, 1) := by decide +kernel
theorem dX9_sitter_4 : decode cX9_sitter 4 = .ok (.getfield 7, 3) := by decide +kernel
theorem dX9_sitter_7 : decode cX9_sitter 7 = .ok (.iconst 2, 1) := by decide +kernel
theorem dX9_sitter_8 : decode cX9_sitter 8 = .ok (.iaload, 1) := by decide +kernel
theorem dX9_sitter_9 : decode cX9_sitter 9 = .ok (.if_icmp .ge 21, 3) := by decide +kernel
theorem dX9_sitter_12 : decode cX9_sitter 12 = .ok (.aload_n 0, 1) := by decide +kernel
theorem dX9_sitter_13 : decode cX9_sitter 13 = .ok (.iload_n 2, 1) := by decide +kernel
theorem dX9_sitter_14 : decode cX9_sitter 14 = .ok (.iconst 3, 1) := by decide +kernel
theorem dX9_sitter_15 : decode cX9_sitter 15 = .ok (.invokevirtual 64, 3) := by decide +kernel
theorem dX9_sitter_18 : decode cX9_sitter 18 = .ok (.iload_n 1, 1) := by decide +kernel
theorem dX9_sitter_19 : decode cX9_sitter 19 = .ok (.if_icmp .ne 5, 3) := by decide +kernel
theorem dX9_sitter_22 : decode cX9_sitter 22 = .ok (.iload_n 2, 1) := by decide +kernel
theorem dX9_sitter_23 : decode cX9_sitter 23 = .ok (.ireturn, 1) := by decide +kernel
theorem dX9_sitter_24 : decode cX9_sitter 24 = .ok (.iinc 2 1, 3) := by decide +kernel
theorem dX9_sitter_27 : decode cX9_sitter 27 = .ok (.goto (-25), 3) := by decide +kernel
theorem dX9_sitter_30 : decode cX9_sitter 30 = .ok (.iconst (-1), 1) := by decide +kernel
theorem dX9_sitter_31 : decode cX9_sitter 31 = .ok (.ireturn, 1) := by decide +kernel
theorem dX9_owns_0 : decode cX9_owns 0 = .ok (.iconst 0, 1) := by decide +kernel
theorem dX9_owns_1 : decode cX9_owns 1 = .ok (.istore_n 2, 1) := by decide +kernel
theorem dX9_owns_2 : decode cX9_owns 2 = .ok (.iconst 0, 1) := by decide +kernel
theorem dX9_owns_3 : decode cX9_owns 3 = .ok (.istore_n 3, 1) := by decide +kernel
theorem dX9_owns_4 : decode cX9_owns 4 = .ok (.iload_n 3, 1) := by decide +kernel
theorem dX9_owns_5 : decode cX9_owns 5 = .ok (.aload_n 0, 1) := by decide +kernel
theorem dX9_owns_6 : decode cX9_owns 6 = .ok (.getfield 7, 3) := by decide +kernel
theorem dX9_owns_9 : decode cX9_owns 9 = .ok (.iconst 0, 1) := by decide +kernel
theorem dX9_owns_10 : decode cX9_owns 10 = .ok (.iaload, 1) := by decide +kernel
theorem dX9_owns_11 : decode cX9_owns 11 = .ok (.if_icmp .ge 26, 3) := by decide +kernel
theorem dX9_owns_14 : decode cX9_owns 14 = .ok (.iload_n 2, 1) := by decide +kernel
theorem dX9_owns_15 : decode cX9_owns 15 = .ok (.aload_n 0, 1) := by decide +kernel
theorem dX9_owns_16 : decode cX9_owns 16 = .ok (.iload_n 3, 1) := by decide +kernel
theorem dX9_owns_17 : decode cX9_owns 17 = .ok (.invokevirtual 68, 3) := by decide +kernel
theorem dX9_owns_20 : decode cX9_owns 20 = .ok (.iload_n 1, 1) := by decide +kernel
theorem dX9_owns_21 : decode cX9_owns 21 = .ok (.if_icmp .ne 7, 3) := by decide +kernel
theorem dX9_owns_24 : decode cX9_owns 24 = .ok (.iconst 1, 1) := by decide +kernel
theorem dX9_owns_25 : decode cX9_owns 25 = .ok (.goto 4, 3) := by decide +kernel
theorem dX9_owns_28 : decode cX9_owns 28 = .ok (.iconst 0, 1) := by decide +kernel
theorem dX9_owns_29 : decode cX9_owns 29 = .ok (.iadd, 1) := by decide +kernel
theorem dX9_owns_30 : decode cX9_owns 30 = .ok (.istore_n 2, 1) := by decide +kernel
theorem dX9_owns_31 : decode cX9_owns 31 = .ok (.iinc 3 1, 3) := by decide +kernel
theorem dX9_owns_34 : decode cX9_owns 34 = .ok (.goto (-30), 3) := by decide +kernel
theorem dX9_owns_37 : decode cX9_owns 37 = .ok (.iload_n 2, 1) := by decide +kernel
theorem dX9_owns_38 : decode cX9_owns 38 = .ok (.ireturn, 1) := by decide +kernel
theorem dX9_isHome_0 : decode cX9_isHome 0 = .ok (.aload_n 0, 1) := by decide +kernel
theorem dX9_isHome_1 : decode cX9_isHome 1 = .ok (.aload_n 0, 1) := by decide +kernel
theorem dX9_isHome_2 : decode cX9_isHome 2 = .ok (.iload_n 1, 1) := by decide +kernel
theorem dX9_isHome_3 : decode cX9_isHome 3 = .ok (.iconst 3, 1) := by decide +kernel
theorem dX9_isHome_4 : decode cX9_isHome 4 = .ok (.invokevirtual 64, 3) := by decide +kernel
theorem dX9_isHome_7 : decode cX9_isHome 7 = .ok (.invokevirtual 68, 3) := by decide +kernel
theorem dX9_isHome_10 : decode cX9_isHome 10 = .ok (.iload_n 1, 1) := by decide +kernel
theorem dX9_isHome_11 : decode cX9_isHome 11 = .ok (.if_icmp .ne 7, 3) := by decide +kernel
theorem dX9_isHome_14 : decode cX9_isHome 14 = .ok (.iconst 1, 1) := by decide +kernel
theorem dX9_isHome_15 : decode cX9_isHome 15 = .ok (.goto 4, 3) := by decide +kernel
theorem dX9_isHome_18 : decode cX9_isHome 18 = .ok (.iconst 0, 1) := by decide +kernel
theorem dX9_isHome_19 : decode cX9_isHome 19 = .ok (.ireturn, 1) := by decide +kernel
theorem dX9_powerOf_0 : decode cX9_powerOf 0 = .ok (.aload_n 0, 1) := by decide +kernel
theorem dX9_powerOf_1 : decode cX9_powerOf 1 = .ok (.iload_n 1, 1) := by decide +kernel
theorem dX9_powerOf_2 : decode cX9_powerOf 2 = .ok (.iconst 1, 1) := by decide +kernel
theorem dX9_powerOf_3 : decode cX9_powerOf 3 = .ok (.invokevirtual 64, 3) := by decide +kernel
theorem dX9_powerOf_6 : decode cX9_powerOf 6 = .ok (.aload_n 0, 1) := by decide +kernel
theorem dX9_powerOf_7 : decode cX9_powerOf 7 = .ok (.iload_n 1, 1) := by decide +kernel
theorem dX9_powerOf_8 : decode cX9_powerOf 8 = .ok (.invokevirtual 72, 3) := by decide +kernel
theorem dX9_powerOf_11 : decode cX9_powerOf 11 = .ok (.ifCond .eq 7, 3) := by decide +kernel
theorem dX9_powerOf_14 : decode cX9_powerOf 14 = .ok (.iconst 2, 1) := by decide +kernel
theorem dX9_powerOf_15 : decode cX9_powerOf 15 = .ok (.goto 4, 3) := by decide +kernel
theorem dX9_powerOf_18 : decode cX9_powerOf 18 = .ok (.iconst 0, 1) := by decide +kernel
theorem dX9_powerOf_19 : decode cX9_powerOf 19 = .ok (.iadd, 1) := by decide +kernel
theorem dX9_powerOf_20 : decode cX9_powerOf 20 = .ok (.ireturn, 1) := by decide +kernel
theorem dX9_truceLeft_0 : decode cX9_truceLeft 0 = .ok (.iconst 0, 1) := by decide +kernel
theorem dX9_truceLeft_1 : decode cX9_truceLeft 1 = .ok (.aload_n 0, 1) := by decide +kernel
theorem dX9_truceLeft_2 : decode cX9_truceLeft 2 = .ok (.getfield 7, 3) := by decide +kernel
theorem dX9_truceLeft_5 : decode cX9_truceLeft 5 = .ok (.bipush 122, 2) := by decide +kernel
theorem dX9_truceLeft_7 : decode cX9_truceLeft 7 = .ok (.bipush 8, 2) := by decide +kernel
theorem dX9_truceLeft_9 : decode cX9_truceLeft 9 = .ok (.iload_n 1, 1) := by decide +kernel
theorem dX9_truceLeft_10 : decode cX9_truceLeft 10 = .ok (.imul, 1) := by decide +kernel
theorem dX9_truceLeft_11 : decode cX9_truceLeft 11 = .ok (.iadd, 1) := by decide +kernel
theorem dX9_truceLeft_12 : decode cX9_truceLeft 12 = .ok (.iload_n 2, 1) := by decide +kernel
theorem dX9_truceLeft_13 : decode cX9_truceLeft 13 = .ok (.iadd, 1) := by decide +kernel
theorem dX9_truceLeft_14 : decode cX9_truceLeft 14 = .ok (.iaload, 1) := by decide +kernel
theorem dX9_truceLeft_15 : decode cX9_truceLeft 15 = .ok (.aload_n 0, 1) := by decide +kernel
theorem dX9_truceLeft_16 : decode cX9_truceLeft 16 = .ok (.getfield 7, 3) := by decide +kernel
theorem dX9_truceLeft_19 : decode cX9_truceLeft 19 = .ok (.iconst 3, 1) := by decide +kernel
theorem dX9_truceLeft_20 : decode cX9_truceLeft 20 = .ok (.iaload, 1) := by decide +kernel
theorem dX9_truceLeft_21 : decode cX9_truceLeft 21 = .ok (.isub, 1) := by decide +kernel
theorem dX9_truceLeft_22 : decode cX9_truceLeft 22 = .ok (.invokestatic 76, 3) := by decide +kernel
theorem dX9_truceLeft_25 : decode cX9_truceLeft 25 = .ok (.ireturn, 1) := by decide +kernel
theorem dX9_joins_0 : decode cX9_joins 0 = .ok (.aload_n 0, 1) := by decide +kernel
theorem dX9_joins_1 : decode cX9_joins 1 = .ok (.iload_n 1, 1) := by decide +kernel
theorem dX9_joins_2 : decode cX9_joins 2 = .ok (.iconst 0, 1) := by decide +kernel
theorem dX9_joins_3 : decode cX9_joins 3 = .ok (.invokevirtual 81, 3) := by decide +kernel
theorem dX9_joins_6 : decode cX9_joins 6 = .ok (.iload_n 2, 1) := by decide +kernel
theorem dX9_joins_7 : decode cX9_joins 7 = .ok (.if_icmp .ne 13, 3) := by decide +kernel
theorem dX9_joins_10 : decode cX9_joins 10 = .ok (.aload_n 0, 1) := by decide +kernel
theorem dX9_joins_11 : decode cX9_joins 11 = .ok (.iload_n 1, 1) := by decide +kernel
theorem dX9_joins_12 : decode cX9_joins 12 = .ok (.iconst 1, 1) := by decide +kernel
theorem dX9_joins_13 : decode cX9_joins 13 = .ok (.invokevirtual 81, 3) := by decide +kernel
theorem dX9_joins_16 : decode cX9_joins 16 = .ok (.iload_n 3, 1) := by decide +kernel
theorem dX9_joins_17 : decode cX9_joins 17 = .ok (.if_icmp .eq 23, 3) := by decide +kernel
theorem dX9_joins_20 : decode cX9_joins 20 = .ok (.aload_n 0, 1) := by decide +kernel
theorem dX9_joins_21 : decode cX9_joins 21 = .ok (.iload_n 1, 1) := by decide +kernel
theorem dX9_joins_22 : decode cX9_joins 22 = .ok (.iconst 0, 1) := by decide +kernel
theorem dX9_joins_23 : decode cX9_joins 23 = .ok (.invokevirtual 81, 3) := by decide +kernel
theorem dX9_joins_26 : decode cX9_joins 26 = .ok (.iload_n 3, 1) := by decide +kernel
theorem dX9_joins_27 : decode cX9_joins 27 = .ok (.if_icmp .ne 17, 3) := by decide +kernel
theorem dX9_joins_30 : decode cX9_joins 30 = .ok (.aload_n 0, 1) := by decide +kernel
theorem dX9_joins_31 : decode cX9_joins 31 = .ok (.iload_n 1, 1) := by decide +kernel
theorem dX9_joins_32 : decode cX9_joins 32 = .ok (.iconst 1, 1) := by decide +kernel
theorem dX9_joins_33 : decode cX9_joins 33 = .ok (.invokevirtual 81, 3) := by decide +kernel
theorem dX9_joins_36 : decode cX9_joins 36 = .ok (.iload_n 2, 1) := by decide +kernel
theorem dX9_joins_37 : decode cX9_joins 37 = .ok (.if_icmp .ne 7, 3) := by decide +kernel
theorem dX9_joins_40 : decode cX9_joins 40 = .ok (.iconst 1, 1) := by decide +kernel
theorem dX9_joins_41 : decode cX9_joins 41 = .ok (.goto 4, 3) := by decide +kernel
theorem dX9_joins_44 : decode cX9_joins 44 = .ok (.iconst 0, 1) := by decide +kernel
theorem dX9_joins_45 : decode cX9_joins 45 = .ok (.ireturn, 1) := by decide +kernel
theorem dX9_across_0 : decode cX9_across 0 = .ok (.aload_n 0, 1) := by decide +kernel
theorem dX9_across_1 : decode cX9_across 1 = .ok (.iload_n 1, 1) := by decide +kernel
theorem dX9_across_2 : decode cX9_across 2 = .ok (.iconst 0, 1) := by decide +kernel
theorem dX9_across_3 : decode cX9_across 3 = .ok (.invokevirtual 81, 3) := by decide +kernel
theorem dX9_across_6 : decode cX9_across 6 = .ok (.iload_n 2, 1) := by decide +kernel
theorem dX9_across_7 : decode cX9_across 7 = .ok (.if_icmp .ne 12, 3) := by decide +kernel
theorem dX9_across_10 : decode cX9_across 10 = .ok (.aload_n 0, 1) := by decide +kernel
theorem dX9_across_11 : decode cX9_across 11 = .ok (.iload_n 1, 1) := by decide +kernel
theorem dX9_across_12 : decode cX9_across 12 = .ok (.iconst 1, 1) := by decide +kernel
theorem dX9_across_13 : decode cX9_across 13 = .ok (.invokevirtual 81, 3) := by decide +kernel
theorem dX9_across_16 : decode cX9_across 16 = .ok (.goto 23, 3) := by decide +kernel
theorem dX9_across_19 : decode cX9_across 19 = .ok (.aload_n 0, 1) := by decide +kernel
theorem dX9_across_20 : decode cX9_across 20 = .ok (.iload_n 1, 1) := by decide +kernel
theorem dX9_across_21 : decode cX9_across 21 = .ok (.iconst 1, 1) := by decide +kernel
theorem dX9_across_22 : decode cX9_across 22 = .ok (.invokevirtual 81, 3) := by decide +kernel
theorem dX9_across_25 : decode cX9_across 25 = .ok (.iload_n 2, 1) := by decide +kernel
theorem dX9_across_26 : decode cX9_across 26 = .ok (.if_icmp .ne 12, 3) := by decide +kernel
theorem dX9_across_29 : decode cX9_across 29 = .ok (.aload_n 0, 1) := by decide +kernel
theorem dX9_across_30 : decode cX9_across 30 = .ok (.iload_n 1, 1) := by decide +kernel
theorem dX9_across_31 : decode cX9_across 31 = .ok (.iconst 0, 1) := by decide +kernel
theorem dX9_across_32 : decode cX9_across 32 = .ok (.invokevirtual 81, 3) := by decide +kernel
theorem dX9_across_35 : decode cX9_across 35 = .ok (.goto 4, 3) := by decide +kernel
theorem dX9_across_38 : decode cX9_across 38 = .ok (.iconst (-1), 1) := by decide +kernel
theorem dX9_across_39 : decode cX9_across 39 = .ok (.ireturn, 1) := by decide +kernel
theorem dX9_widestBetween_0 : decode cX9_widestBetween 0 = .ok (.iconst 0, 1) := by decide +kernel
theorem dX9_widestBetween_1 : decode cX9_widestBetween 1 = .ok (.istore_n 3, 1) := by decide +kernel
theorem dX9_widestBetween_2 : decode cX9_widestBetween 2 = .ok (.iconst 0, 1) := by decide +kernel
theorem dX9_widestBetween_3 : decode cX9_widestBetween 3 = .ok (.istore 4, 2) := by decide +kernel
theorem dX9_widestBetween_5 : decode cX9_widestBetween 5 = .ok (.iload 4, 2) := by decide +kernel
theorem dX9_widestBetween_7 : decode cX9_widestBetween 7 = .ok (.aload_n 0, 1) := by decide +kernel
theorem dX9_widestBetween_8 : decode cX9_widestBetween 8 = .ok (.getfield 7, 3) := by decide +kernel
theorem dX9_widestBetween_11 : decode cX9_widestBetween 11 = .ok (.iconst 1, 1) := by decide +kernel
theorem dX9_widestBetween_12 : decode cX9_widestBetween 12 = .ok (.iaload, 1) := by decide +kernel
theorem dX9_widestBetween_13 : decode cX9_widestBetween 13 = .ok (.if_icmp .ge 36, 3) := by decide +kernel
theorem dX9_widestBetween_16 : decode cX9_widestBetween 16 = .ok (.aload_n 0, 1) := by decide +kernel
theorem dX9_widestBetween_17 : decode cX9_widestBetween 17 = .ok (.iload 4, 2) := by decide +kernel
theorem dX9_widestBetween_19 : decode cX9_widestBetween 19 = .ok (.iload_n 1, 1) := by decide +kernel
theorem dX9_widestBetween_20 : decode cX9_widestBetween 20 = .ok (.iload_n 2, 1) := by decide +kernel
theorem dX9_widestBetween_21 : decode cX9_widestBetween 21 = .ok (.invokevirtual 84, 3) := by decide +kernel
theorem dX9_widestBetween_24 : decode cX9_widestBetween 24 = .ok (.ifCond .eq 17, 3) := by decide +kernel
theorem dX9_widestBetween_27 : decode cX9_widestBetween 27 = .ok (.iload_n 3, 1) := by decide +kernel
theorem dX9_widestBetween_28 : decode cX9_widestBetween 28 = .ok (.aload_n 0, 1) := by decide +kernel
theorem dX9_widestBetween_29 : decode cX9_widestBetween 29 = .ok (.iload 4, 2) := by decide +kernel
theorem dX9_widestBetween_31 : decode cX9_widestBetween 31 = .ok (.iconst 2, 1) := by decide +kernel
theorem dX9_widestBetween_32 : decode cX9_widestBetween 32 = .ok (.invokevirtual 81, 3) := by decide +kernel
theorem dX9_widestBetween_35 : decode cX9_widestBetween 35 = .ok (.invokestatic 76, 3) := by decide +kernel
theorem dX9_widestBetween_38 : decode cX9_widestBetween 38 = .ok (.goto 4, 3) := by decide +kernel
theorem dX9_widestBetween_41 : decode cX9_widestBetween 41 = .ok (.iload_n 3, 1) := by decide +kernel
theorem dX9_widestBetween_42 : decode cX9_widestBetween 42 = .ok (.istore_n 3, 1) := by decide +kernel
theorem dX9_widestBetween_43 : decode cX9_widestBetween 43 = .ok (.iinc 4 1, 3) := by decide +kernel
theorem dX9_widestBetween_46 : decode cX9_widestBetween 46 = .ok (.goto (-41), 3) := by decide +kernel
theorem dX9_widestBetween_49 : decode cX9_widestBetween 49 = .ok (.iload_n 3, 1) := by decide +kernel
theorem dX9_widestBetween_50 : decode cX9_widestBetween 50 = .ok (.ireturn, 1) := by decide +kernel
theorem dX9_whyNotIn_0 : decode cX9_whyNotIn 0 = .ok (.aload_n 0, 1) := by decide +kernel
theorem dX9_whyNotIn_1 : decode cX9_whyNotIn 1 = .ok (.iload_n 2, 1) := by decide +kernel
theorem dX9_whyNotIn_2 : decode cX9_whyNotIn 2 = .ok (.invokevirtual 87, 3) := by decide +kernel
theorem dX9_whyNotIn_5 : decode cX9_whyNotIn 5 = .ok (.istore_n 3, 1) := by decide +kernel
theorem dX9_whyNotIn_6 : decode cX9_whyNotIn 6 = .ok (.iload_n 3, 1) := by decide +kernel
theorem dX9_whyNotIn_7 : decode cX9_whyNotIn 7 = .ok (.iconst (-1), 1) := by decide +kernel
theorem dX9_whyNotIn_8 : decode cX9_whyNotIn 8 = .ok (.if_icmp .eq 10, 3) := by decide +kernel
theorem dX9_whyNotIn_11 : decode cX9_whyNotIn 11 = .ok (.iload_n 3, 1) := by decide +kernel
theorem dX9_whyNotIn_12 : decode cX9_whyNotIn 12 = .ok (.iload_n 1, 1) := by decide +kernel
theorem dX9_whyNotIn_13 : decode cX9_whyNotIn 13 = .ok (.if_icmp .eq 5, 3) := by decide +kernel
theorem dX9_whyNotIn_16 : decode cX9_whyNotIn 16 = .ok (.iconst 3, 1) := by decide +kernel
theorem dX9_whyNotIn_17 : decode cX9_whyNotIn 17 = .ok (.ireturn, 1) := by decide +kernel
theorem dX9_whyNotIn_18 : decode cX9_whyNotIn 18 = .ok (.aload_n 0, 1) := by decide +kernel
theorem dX9_whyNotIn_19 : decode cX9_whyNotIn 19 = .ok (.iload_n 2, 1) := by decide +kernel
theorem dX9_whyNotIn_20 : decode cX9_whyNotIn 20 = .ok (.invokevirtual 68, 3) := by decide +kernel
theorem dX9_whyNotIn_23 : decode cX9_whyNotIn 23 = .ok (.istore 4, 2) := by decide +kernel
theorem dX9_whyNotIn_25 : decode cX9_whyNotIn 25 = .ok (.iload 4, 2) := by decide +kernel
theorem dX9_whyNotIn_27 : decode cX9_whyNotIn 27 = .ok (.iconst (-1), 1) := by decide +kernel
theorem dX9_whyNotIn_28 : decode cX9_whyNotIn 28 = .ok (.if_icmp .eq 23, 3) := by decide +kernel
theorem dX9_whyNotIn_31 : decode cX9_whyNotIn 31 = .ok (.iload 4, 2) := by decide +kernel
theorem dX9_whyNotIn_33 : decode cX9_whyNotIn 33 = .ok (.iload_n 1, 1) := by decide +kernel
theorem dX9_whyNotIn_34 : decode cX9_whyNotIn 34 = .ok (.if_icmp .eq 17, 3) := by decide +kernel
theorem dX9_whyNotIn_37 : decode cX9_whyNotIn 37 = .ok (.aload_n 0, 1) := by decide +kernel
theorem dX9_whyNotIn_38 : decode cX9_whyNotIn 38 = .ok (.iload_n 1, 1) := by decide +kernel
theorem dX9_whyNotIn_39 : decode cX9_whyNotIn 39 = .ok (.iload 4, 2) := by decide +kernel
theorem dX9_whyNotIn_41 : decode cX9_whyNotIn 41 = .ok (.invokevirtual 90, 3) := by decide +kernel
theorem dX9_whyNotIn_44 : decode cX9_whyNotIn 44 = .ok (.ifCond .ne 7, 3) := by decide +kernel
theorem dX9_whyNotIn_47 : decode cX9_whyNotIn 47 = .ok (.iconst 4, 1) := by decide +kernel
theorem dX9_whyNotIn_48 : decode cX9_whyNotIn 48 = .ok (.goto 4, 3) := by decide +kernel
theorem dX9_whyNotIn_51 : decode cX9_whyNotIn 51 = .ok (.iconst 0, 1) := by decide +kernel
theorem dX9_whyNotIn_52 : decode cX9_whyNotIn 52 = .ok (.ireturn, 1) := by decide +kernel
theorem dX9_whyStays_0 : decode cX9_whyStays 0 = .ok (.aload_n 0, 1) := by decide +kernel
theorem dX9_whyStays_1 : decode cX9_whyStays 1 = .ok (.iload_n 2, 1) := by decide +kernel
theorem dX9_whyStays_2 : decode cX9_whyStays 2 = .ok (.aload_n 0, 1) := by decide +kernel
theorem dX9_whyStays_3 : decode cX9_whyStays 3 = .ok (.iload_n 1, 1) := by decide +kernel
theorem dX9_whyStays_4 : decode cX9_whyStays 4 = .ok (.iconst 3, 1) := by decide +kernel
theorem dX9_whyStays_5 : decode cX9_whyStays 5 = .ok (.invokevirtual 64, 3) := by decide +kernel
theorem dX9_whyStays_8 : decode cX9_whyStays 8 = .ok (.invokevirtual 93, 3) := by decide +kernel
theorem dX9_whyStays_11 : decode cX9_whyStays 11 = .ok (.istore_n 3, 1) := by decide +kernel
theorem dX9_whyStays_12 : decode cX9_whyStays 12 = .ok (.iload_n 3, 1) := by decide +kernel
theorem dX9_whyStays_13 : decode cX9_whyStays 13 = .ok (.iconst (-1), 1) := by decide +kernel
theorem dX9_whyStays_14 : decode cX9_whyStays 14 = .ok (.if_icmp .ne 5, 3) := by decide +kernel
theorem dX9_whyStays_17 : decode cX9_whyStays 17 = .ok (.iconst 1, 1) := by decide +kernel
theorem dX9_whyStays_18 : decode cX9_whyStays 18 = .ok (.ireturn, 1) := by decide +kernel
theorem dX9_whyStays_19 : decode cX9_whyStays 19 = .ok (.aload_n 0, 1) := by decide +kernel
theorem dX9_whyStays_20 : decode cX9_whyStays 20 = .ok (.iload_n 2, 1) := by decide +kernel
theorem dX9_whyStays_21 : decode cX9_whyStays 21 = .ok (.iconst 2, 1) := by decide +kernel
theorem dX9_whyStays_22 : decode cX9_whyStays 22 = .ok (.invokevirtual 81, 3) := by decide +kernel
theorem dX9_whyStays_25 : decode cX9_whyStays 25 = .ok (.aload_n 0, 1) := by decide +kernel
theorem dX9_whyStays_26 : decode cX9_whyStays 26 = .ok (.iload_n 1, 1) := by decide +kernel
theorem dX9_whyStays_27 : decode cX9_whyStays 27 = .ok (.iconst 0, 1) := by decide +kernel
theorem dX9_whyStays_28 : decode cX9_whyStays 28 = .ok (.invokevirtual 64, 3) := by decide +kernel
theorem dX9_whyStays_31 : decode cX9_whyStays 31 = .ok (.if_icmp .ge 7, 3) := by decide +kernel
theorem dX9_whyStays_34 : decode cX9_whyStays 34 = .ok (.iconst 2, 1) := by decide +kernel
theorem dX9_whyStays_35 : decode cX9_whyStays 35 = .ok (.goto 9, 3) := by decide +kernel
theorem dX9_whyStays_38 : decode cX9_whyStays 38 = .ok (.aload_n 0, 1) := by decide +kernel
theorem dX9_whyStays_39 : decode cX9_whyStays 39 = .ok (.iload_n 1, 1) := by decide +kernel
theorem dX9_whyStays_40 : decode cX9_whyStays 40 = .ok (.iload_n 3, 1) := by decide +kernel
theorem dX9_whyStays_41 : decode cX9_whyStays 41 = .ok (.invokevirtual 96, 3) := by decide +kernel
theorem dX9_whyStays_44 : decode cX9_whyStays 44 = .ok (.ireturn, 1) := by decide +kernel
theorem dX9_whyLeaves_0 : decode cX9_whyLeaves 0 = .ok (.aload_n 0, 1) := by decide +kernel
theorem dX9_whyLeaves_1 : decode cX9_whyLeaves 1 = .ok (.aload_n 0, 1) := by decide +kernel
theorem dX9_whyLeaves_2 : decode cX9_whyLeaves 2 = .ok (.iload_n 1, 1) := by decide +kernel
theorem dX9_whyLeaves_3 : decode cX9_whyLeaves 3 = .ok (.iconst 3, 1) := by decide +kernel
theorem dX9_whyLeaves_4 : decode cX9_whyLeaves 4 = .ok (.invokevirtual 64, 3) := by decide +kernel
theorem dX9_whyLeaves_7 : decode cX9_whyLeaves 7 = .ok (.invokevirtual 68, 3) := by decide +kernel
theorem dX9_whyLeaves_10 : decode cX9_whyLeaves 10 = .ok (.iconst (-1), 1) := by decide +kernel
theorem dX9_whyLeaves_11 : decode cX9_whyLeaves 11 = .ok (.if_icmp .eq 5, 3) := by decide +kernel
theorem dX9_whyLeaves_14 : decode cX9_whyLeaves 14 = .ok (.iconst 5, 1) := by decide +kernel
theorem dX9_whyLeaves_15 : decode cX9_whyLeaves 15 = .ok (.ireturn, 1) := by decide +kernel
theorem dX9_whyLeaves_16 : decode cX9_whyLeaves 16 = .ok (.aload_n 0, 1) := by decide +kernel
theorem dX9_whyLeaves_17 : decode cX9_whyLeaves 17 = .ok (.iload_n 1, 1) := by decide +kernel
theorem dX9_whyLeaves_18 : decode cX9_whyLeaves 18 = .ok (.invokevirtual 99, 3) := by decide +kernel
theorem dX9_whyLeaves_21 : decode cX9_whyLeaves 21 = .ok (.iconst 4, 1) := by decide +kernel
theorem dX9_whyLeaves_22 : decode cX9_whyLeaves 22 = .ok (.if_icmp .ne 8, 3) := by decide +kernel
theorem dX9_whyLeaves_25 : decode cX9_whyLeaves 25 = .ok (.bipush 6, 2) := by decide +kernel
theorem dX9_whyLeaves_27 : decode cX9_whyLeaves 27 = .ok (.goto 4, 3) := by decide +kernel
theorem dX9_whyLeaves_30 : decode cX9_whyLeaves 30 = .ok (.iconst 0, 1) := by decide +kernel
theorem dX9_whyLeaves_31 : decode cX9_whyLeaves 31 = .ok (.ireturn, 1) := by decide +kernel
theorem dX9_whySpares_0 : decode cX9_whySpares 0 = .ok (.aload_n 0, 1) := by decide +kernel
theorem dX9_whySpares_1 : decode cX9_whySpares 1 = .ok (.aload_n 0, 1) := by decide +kernel
theorem dX9_whySpares_2 : decode cX9_whySpares 2 = .ok (.iload_n 1, 1) := by decide +kernel
theorem dX9_whySpares_3 : decode cX9_whySpares 3 = .ok (.iconst 3, 1) := by decide +kernel
theorem dX9_whySpares_4 : decode cX9_whySpares 4 = .ok (.invokevirtual 64, 3) := by decide +kernel
theorem dX9_whySpares_7 : decode cX9_whySpares 7 = .ok (.aload_n 0, 1) := by decide +kernel
theorem dX9_whySpares_8 : decode cX9_whySpares 8 = .ok (.iload_n 2, 1) := by decide +kernel
theorem dX9_whySpares_9 : decode cX9_whySpares 9 = .ok (.iconst 3, 1) := by decide +kernel
theorem dX9_whySpares_10 : decode cX9_whySpares 10 = .ok (.invokevirtual 64, 3) := by decide +kernel
theorem dX9_whySpares_13 : decode cX9_whySpares 13 = .ok (.invokevirtual 102, 3) := by decide +kernel
theorem dX9_whySpares_16 : decode cX9_whySpares 16 = .ok (.aload_n 0, 1) := by decide +kernel
theorem dX9_whySpares_17 : decode cX9_whySpares 17 = .ok (.iload_n 1, 1) := by decide +kernel
theorem dX9_whySpares_18 : decode cX9_whySpares 18 = .ok (.iconst 0, 1) := by decide +kernel
theorem dX9_whySpares_19 : decode cX9_whySpares 19 = .ok (.invokevirtual 64, 3) := by decide +kernel
theorem dX9_whySpares_22 : decode cX9_whySpares 22 = .ok (.if_icmp .ge 6, 3) := by decide +kernel
theorem dX9_whySpares_25 : decode cX9_whySpares 25 = .ok (.bipush 7, 2) := by decide +kernel
theorem dX9_whySpares_27 : decode cX9_whySpares 27 = .ok (.ireturn, 1) := by decide +kernel
theorem dX9_whySpares_28 : decode cX9_whySpares 28 = .ok (.aload_n 0, 1) := by decide +kernel
theorem dX9_whySpares_29 : decode cX9_whySpares 29 = .ok (.iload_n 1, 1) := by decide +kernel
theorem dX9_whySpares_30 : decode cX9_whySpares 30 = .ok (.iload_n 2, 1) := by decide +kernel
theorem dX9_whySpares_31 : decode cX9_whySpares 31 = .ok (.invokevirtual 90, 3) := by decide +kernel
theorem dX9_whySpares_34 : decode cX9_whySpares 34 = .ok (.ifCond .le 6, 3) := by decide +kernel
theorem dX9_whySpares_37 : decode cX9_whySpares 37 = .ok (.bipush 8, 2) := by decide +kernel
theorem dX9_whySpares_39 : decode cX9_whySpares 39 = .ok (.ireturn, 1) := by decide +kernel
theorem dX9_whySpares_40 : decode cX9_whySpares 40 = .ok (.aload_n 0, 1) := by decide +kernel
theorem dX9_whySpares_41 : decode cX9_whySpares 41 = .ok (.iload_n 1, 1) := by decide +kernel
theorem dX9_whySpares_42 : decode cX9_whySpares 42 = .ok (.invokevirtual 105, 3) := by decide +kernel
theorem dX9_whySpares_45 : decode cX9_whySpares 45 = .ok (.aload_n 0, 1) := by decide +kernel
theorem dX9_whySpares_46 : decode cX9_whySpares 46 = .ok (.iload_n 2, 1) := by decide +kernel
theorem dX9_whySpares_47 : decode cX9_whySpares 47 = .ok (.invokevirtual 105, 3) := by decide +kernel
theorem dX9_whySpares_50 : decode cX9_whySpares 50 = .ok (.if_icmp .gt 8, 3) := by decide +kernel
theorem dX9_whySpares_53 : decode cX9_whySpares 53 = .ok (.bipush 9, 2) := by decide +kernel
theorem dX9_whySpares_55 : decode cX9_whySpares 55 = .ok (.goto 4, 3) := by decide +kernel
theorem dX9_whySpares_58 : decode cX9_whySpares 58 = .ok (.iconst 0, 1) := by decide +kernel
theorem dX9_whySpares_59 : decode cX9_whySpares 59 = .ok (.ireturn, 1) := by decide +kernel
theorem dX9_walks_0 : decode cX9_walks 0 = .ok (.iconst 0, 1) := by decide +kernel
theorem dX9_walks_1 : decode cX9_walks 1 = .ok (.istore_n 2, 1) := by decide +kernel
theorem dX9_walks_2 : decode cX9_walks 2 = .ok (.iload_n 2, 1) := by decide +kernel
theorem dX9_walks_3 : decode cX9_walks 3 = .ok (.bipush 10, 2) := by decide +kernel
theorem dX9_walks_5 : decode cX9_walks 5 = .ok (.if_icmp .ge 16, 3) := by decide +kernel
theorem dX9_walks_8 : decode cX9_walks 8 = .ok (.aload_n 0, 1) := by decide +kernel
theorem dX9_walks_9 : decode cX9_walks 9 = .ok (.getfield 31, 3) := by decide +kernel
theorem dX9_walks_12 : decode cX9_walks 12 = .ok (.iload_n 2, 1) := by decide +kernel
theorem dX9_walks_13 : decode cX9_walks 13 = .ok (.iconst (-1), 1) := by decide +kernel
theorem dX9_walks_14 : decode cX9_walks 14 = .ok (.iastore, 1) := by decide +kernel
theorem dX9_walks_15 : decode cX9_walks 15 = .ok (.iinc 2 1, 3) := by decide +kernel
theorem dX9_walks_18 : decode cX9_walks 18 = .ok (.goto (-16), 3) := by decide +kernel
theorem dX9_walks_21 : decode cX9_walks 21 = .ok (.aload_n 0, 1) := by decide +kernel
theorem dX9_walks_22 : decode cX9_walks 22 = .ok (.getfield 31, 3) := by decide +kernel
theorem dX9_walks_25 : decode cX9_walks 25 = .ok (.aload_n 0, 1) := by decide +kernel
theorem dX9_walks_26 : decode cX9_walks 26 = .ok (.iload_n 1, 1) := by decide +kernel
theorem dX9_walks_27 : decode cX9_walks 27 = .ok (.iconst 3, 1) := by decide +kernel
theorem dX9_walks_28 : decode cX9_walks 28 = .ok (.invokevirtual 64, 3) := by decide +kernel
theorem dX9_walks_31 : decode cX9_walks 31 = .ok (.iconst 0, 1) := by decide +kernel
theorem dX9_walks_32 : decode cX9_walks 32 = .ok (.iastore, 1) := by decide +kernel
theorem dX9_walks_33 : decode cX9_walks 33 = .ok (.iconst 0, 1) := by decide +kernel
theorem dX9_walks_34 : decode cX9_walks 34 = .ok (.istore_n 2, 1) := by decide +kernel
theorem dX9_walks_35 : decode cX9_walks 35 = .ok (.iload_n 2, 1) := by decide +kernel
theorem dX9_walks_36 : decode cX9_walks 36 = .ok (.aload_n 0, 1) := by decide +kernel
theorem dX9_walks_37 : decode cX9_walks 37 = .ok (.getfield 7, 3) := by decide +kernel
theorem dX9_walks_40 : decode cX9_walks 40 = .ok (.iconst 0, 1) := by decide +kernel
theorem dX9_walks_41 : decode cX9_walks 41 = .ok (.iaload, 1) := by decide +kernel
theorem dX9_walks_42 : decode cX9_walks 42 = .ok (.if_icmp .ge 46, 3) := by decide +kernel
theorem dX9_walks_45 : decode cX9_walks 45 = .ok (.iconst 0, 1) := by decide +kernel
theorem dX9_walks_46 : decode cX9_walks 46 = .ok (.istore_n 3, 1) := by decide +kernel
theorem dX9_walks_47 : decode cX9_walks 47 = .ok (.iload_n 3, 1) := by decide +kernel
theorem dX9_walks_48 : decode cX9_walks 48 = .ok (.aload_n 0, 1) := by decide +kernel
theorem dX9_walks_49 : decode cX9_walks 49 = .ok (.getfield 7, 3) := by decide +kernel
theorem dX9_walks_52 : decode cX9_walks 52 = .ok (.iconst 0, 1) := by decide +kernel
theorem dX9_walks_53 : decode cX9_walks 53 = .ok (.iaload, 1) := by decide +kernel
theorem dX9_walks_54 : decode cX9_walks 54 = .ok (.if_icmp .ge 28, 3) := by decide +kernel
theorem dX9_walks_57 : decode cX9_walks 57 = .ok (.aload_n 0, 1) := by decide +kernel
theorem dX9_walks_58 : decode cX9_walks 58 = .ok (.getfield 31, 3) := by decide +kernel
theorem dX9_walks_61 : decode cX9_walks 61 = .ok (.iload_n 3, 1) := by decide +kernel
theorem dX9_walks_62 : decode cX9_walks 62 = .ok (.iaload, 1) := by decide +kernel
theorem dX9_walks_63 : decode cX9_walks 63 = .ok (.iload_n 2, 1) := by decide +kernel
theorem dX9_walks_64 : decode cX9_walks 64 = .ok (.if_icmp .ne 12, 3) := by decide +kernel
theorem dX9_walks_67 : decode cX9_walks 67 = .ok (.aload_n 0, 1) := by decide +kernel
theorem dX9_walks_68 : decode cX9_walks 68 = .ok (.iload_n 1, 1) := by decide +kernel
theorem dX9_walks_69 : decode cX9_walks 69 = .ok (.iload_n 3, 1) := by decide +kernel
theorem dX9_walks_70 : decode cX9_walks 70 = .ok (.iload_n 2, 1) := by decide +kernel
theorem dX9_walks_71 : decode cX9_walks 71 = .ok (.iconst 1, 1) := by decide +kernel
theorem dX9_walks_72 : decode cX9_walks 72 = .ok (.iadd, 1) := by decide +kernel
theorem dX9_walks_73 : decode cX9_walks 73 = .ok (.invokevirtual 108, 3) := by decide +kernel
theorem dX9_walks_76 : decode cX9_walks 76 = .ok (.iinc 3 1, 3) := by decide +kernel
theorem dX9_walks_79 : decode cX9_walks 79 = .ok (.goto (-32), 3) := by decide +kernel
theorem dX9_walks_82 : decode cX9_walks 82 = .ok (.iinc 2 1, 3) := by decide +kernel
theorem dX9_walks_85 : decode cX9_walks 85 = .ok (.goto (-50), 3) := by decide +kernel
theorem dX9_walks_88 : decode cX9_walks 88 = .ok (.return_, 1) := by decide +kernel
theorem dX9_spreads_0 : decode cX9_spreads 0 = .ok (.iconst 0, 1) := by decide +kernel
theorem dX9_spreads_1 : decode cX9_spreads 1 = .ok (.istore 4, 2) := by decide +kernel
theorem dX9_spreads_3 : decode cX9_spreads 3 = .ok (.iload 4, 2) := by decide +kernel
theorem dX9_spreads_5 : decode cX9_spreads 5 = .ok (.aload_n 0, 1) := by decide +kernel
theorem dX9_spreads_6 : decode cX9_spreads 6 = .ok (.getfield 7, 3) := by decide +kernel
theorem dX9_spreads_9 : decode cX9_spreads 9 = .ok (.iconst 1, 1) := by decide +kernel
theorem dX9_spreads_10 : decode cX9_spreads 10 = .ok (.iaload, 1) := by decide +kernel
theorem dX9_spreads_11 : decode cX9_spreads 11 = .ok (.if_icmp .ge 69, 3) := by decide +kernel
theorem dX9_spreads_14 : decode cX9_spreads 14 = .ok (.aload_n 0, 1) := by decide +kernel
theorem dX9_spreads_15 : decode cX9_spreads 15 = .ok (.iload 4, 2) := by decide +kernel
theorem dX9_spreads_17 : decode cX9_spreads 17 = .ok (.iload_n 2, 1) := by decide +kernel
theorem dX9_spreads_18 : decode cX9_spreads 18 = .ok (.invokevirtual 93, 3) := by decide +kernel
theorem dX9_spreads_21 : decode cX9_spreads 21 = .ok (.istore 5, 2) := by decide +kernel
theorem dX9_spreads_23 : decode cX9_spreads 23 = .ok (.iload 5, 2) := by decide +kernel
theorem dX9_spreads_25 : decode cX9_spreads 25 = .ok (.iconst (-1), 1) := by decide +kernel
theorem dX9_spreads_26 : decode cX9_spreads 26 = .ok (.if_icmp .eq 48, 3) := by decide +kernel
theorem dX9_spreads_29 : decode cX9_spreads 29 = .ok (.aload_n 0, 1) := by decide +kernel
theorem dX9_spreads_30 : decode cX9_spreads 30 = .ok (.getfield 31, 3) := by decide +kernel
theorem dX9_spreads_33 : decode cX9_spreads 33 = .ok (.iload 5, 2) := by decide +kernel
theorem dX9_spreads_35 : decode cX9_spreads 35 = .ok (.iaload, 1) := by decide +kernel
theorem dX9_spreads_36 : decode cX9_spreads 36 = .ok (.iconst (-1), 1) := by decide +kernel
theorem dX9_spreads_37 : decode cX9_spreads 37 = .ok (.if_icmp .ne 37, 3) := by decide +kernel
theorem dX9_spreads_40 : decode cX9_spreads 40 = .ok (.aload_n 0, 1) := by decide +kernel
theorem dX9_spreads_41 : decode cX9_spreads 41 = .ok (.iload 4, 2) := by decide +kernel
theorem dX9_spreads_43 : decode cX9_spreads 43 = .ok (.iconst 2, 1) := by decide +kernel
theorem dX9_spreads_44 : decode cX9_spreads 44 = .ok (.invokevirtual 81, 3) := by decide +kernel
theorem dX9_spreads_47 : decode cX9_spreads 47 = .ok (.aload_n 0, 1) := by decide +kernel
theorem dX9_spreads_48 : decode cX9_spreads 48 = .ok (.iload_n 1, 1) := by decide +kernel
theorem dX9_spreads_49 : decode cX9_spreads 49 = .ok (.iconst 0, 1) := by decide +kernel
theorem dX9_spreads_50 : decode cX9_spreads 50 = .ok (.invokevirtual 64, 3) := by decide +kernel
theorem dX9_spreads_53 : decode cX9_spreads 53 = .ok (.if_icmp .lt 21, 3) := by decide +kernel
theorem dX9_spreads_56 : decode cX9_spreads 56 = .ok (.aload_n 0, 1) := by decide +kernel
theorem dX9_spreads_57 : decode cX9_spreads 57 = .ok (.iload_n 1, 1) := by decide +kernel
theorem dX9_spreads_58 : decode cX9_spreads 58 = .ok (.iload 5, 2) := by decide +kernel
theorem dX9_spreads_60 : decode cX9_spreads 60 = .ok (.invokevirtual 96, 3) := by decide +kernel
theorem dX9_spreads_63 : decode cX9_spreads 63 = .ok (.ifCond .ne 11, 3) := by decide +kernel
theorem dX9_spreads_66 : decode cX9_spreads 66 = .ok (.aload_n 0, 1) := by decide +kernel
theorem dX9_spreads_67 : decode cX9_spreads 67 = .ok (.getfield 31, 3) := by decide +kernel
theorem dX9_spreads_70 : decode cX9_spreads 70 = .ok (.iload 5, 2) := by decide +kernel
theorem dX9_spreads_72 : decode cX9_spreads 72 = .ok (.iload_n 3, 1) := by decide +kernel
theorem dX9_spreads_73 : decode cX9_spreads 73 = .ok (.iastore, 1) := by decide +kernel
theorem dX9_spreads_74 : decode cX9_spreads 74 = .ok (.iinc 4 1, 3) := by decide +kernel
theorem dX9_spreads_77 : decode cX9_spreads 77 = .ok (.goto (-74), 3) := by decide +kernel
theorem dX9_spreads_80 : decode cX9_spreads 80 = .ok (.return_, 1) := by decide +kernel
theorem dX9_reachedBy_0 : decode cX9_reachedBy 0 = .ok (.iconst 1, 1) := by decide +kernel
theorem dX9_reachedBy_1 : decode cX9_reachedBy 1 = .ok (.iload_n 2, 1) := by decide +kernel
theorem dX9_reachedBy_2 : decode cX9_reachedBy 2 = .ok (.ishl, 1) := by decide +kernel
theorem dX9_reachedBy_3 : decode cX9_reachedBy 3 = .ok (.istore_n 3, 1) := by decide +kernel
theorem dX9_reachedBy_4 : decode cX9_reachedBy 4 = .ok (.iconst 0, 1) := by decide +kernel
theorem dX9_reachedBy_5 : decode cX9_reachedBy 5 = .ok (.istore 4, 2) := by decide +kernel
theorem dX9_reachedBy_7 : decode cX9_reachedBy 7 = .ok (.iload 4, 2) := by decide +kernel
theorem dX9_reachedBy_9 : decode cX9_reachedBy 9 = .ok (.aload_n 0, 1) := by decide +kernel
theorem dX9_reachedBy_10 : decode cX9_reachedBy 10 = .ok (.getfield 7, 3) := by decide +kernel
theorem dX9_reachedBy_13 : decode cX9_reachedBy 13 = .ok (.iconst 0, 1) := by decide +kernel
theorem dX9_reachedBy_14 : decode cX9_reachedBy 14 = .ok (.iaload, 1) := by decide +kernel
theorem dX9_reachedBy_15 : decode cX9_reachedBy 15 = .ok (.if_icmp .ge 77, 3) := by decide +kernel
theorem dX9_reachedBy_18 : decode cX9_reachedBy 18 = .ok (.iconst 0, 1) := by decide +kernel
theorem dX9_reachedBy_19 : decode cX9_reachedBy 19 = .ok (.istore 5, 2) := by decide +kernel
theorem dX9_reachedBy_21 : decode cX9_reachedBy 21 = .ok (.iload 5, 2) := by decide +kernel
theorem dX9_reachedBy_23 : decode cX9_reachedBy 23 = .ok (.aload_n 0, 1) := by decide +kernel
theorem dX9_reachedBy_24 : decode cX9_reachedBy 24 = .ok (.getfield 7, 3) := by decide +kernel
theorem dX9_reachedBy_27 : decode cX9_reachedBy 27 = .ok (.iconst 1, 1) := by decide +kernel
theorem dX9_reachedBy_28 : decode cX9_reachedBy 28 = .ok (.iaload, 1) := by decide +kernel
theorem dX9_reachedBy_29 : decode cX9_reachedBy 29 = .ok (.if_icmp .ge 57, 3) := by decide +kernel
theorem dX9_reachedBy_32 : decode cX9_reachedBy 32 = .ok (.iconst 1, 1) := by decide +kernel
theorem dX9_reachedBy_33 : decode cX9_reachedBy 33 = .ok (.aload_n 0, 1) := by decide +kernel
theorem dX9_reachedBy_34 : decode cX9_reachedBy 34 = .ok (.iload 5, 2) := by decide +kernel
theorem dX9_reachedBy_36 : decode cX9_reachedBy 36 = .ok (.iconst 0, 1) := by decide +kernel
theorem dX9_reachedBy_37 : decode cX9_reachedBy 37 = .ok (.invokevirtual 81, 3) := by decide +kernel
theorem dX9_reachedBy_40 : decode cX9_reachedBy 40 = .ok (.ishl, 1) := by decide +kernel
theorem dX9_reachedBy_41 : decode cX9_reachedBy 41 = .ok (.iconst 1, 1) := by decide +kernel
theorem dX9_reachedBy_42 : decode cX9_reachedBy 42 = .ok (.aload_n 0, 1) := by decide +kernel
theorem dX9_reachedBy_43 : decode cX9_reachedBy 43 = .ok (.iload 5, 2) := by decide +kernel
theorem dX9_reachedBy_45 : decode cX9_reachedBy 45 = .ok (.iconst 1, 1) := by decide +kernel
theorem dX9_reachedBy_46 : decode cX9_reachedBy 46 = .ok (.invokevirtual 81, 3) := by decide +kernel
theorem dX9_reachedBy_49 : decode cX9_reachedBy 49 = .ok (.ishl, 1) := by decide +kernel
theorem dX9_reachedBy_50 : decode cX9_reachedBy 50 = .ok (.ior, 1) := by decide +kernel
theorem dX9_reachedBy_51 : decode cX9_reachedBy 51 = .ok (.istore 6, 2) := by decide +kernel
theorem dX9_reachedBy_53 : decode cX9_reachedBy 53 = .ok (.iload_n 3, 1) := by decide +kernel
theorem dX9_reachedBy_54 : decode cX9_reachedBy 54 = .ok (.aload_n 0, 1) := by decide +kernel
theorem dX9_reachedBy_55 : decode cX9_reachedBy 55 = .ok (.iload 5, 2) := by decide +kernel
theorem dX9_reachedBy_57 : decode cX9_reachedBy 57 = .ok (.iconst 2, 1) := by decide +kernel
theorem dX9_reachedBy_58 : decode cX9_reachedBy 58 = .ok (.invokevirtual 81, 3) := by decide +kernel
theorem dX9_reachedBy_61 : decode cX9_reachedBy 61 = .ok (.iload_n 1, 1) := by decide +kernel
theorem dX9_reachedBy_62 : decode cX9_reachedBy 62 = .ok (.if_icmp .lt 15, 3) := by decide +kernel
theorem dX9_reachedBy_65 : decode cX9_reachedBy 65 = .ok (.iload_n 3, 1) := by decide +kernel
theorem dX9_reachedBy_66 : decode cX9_reachedBy 66 = .ok (.iload 6, 2) := by decide +kernel
theorem dX9_reachedBy_68 : decode cX9_reachedBy 68 = .ok (.iand, 1) := by decide +kernel
theorem dX9_reachedBy_69 : decode cX9_reachedBy 69 = .ok (.ifCond .eq 8, 3) := by decide +kernel
theorem dX9_reachedBy_72 : decode cX9_reachedBy 72 = .ok (.iload 6, 2) := by decide +kernel
theorem dX9_reachedBy_74 : decode cX9_reachedBy 74 = .ok (.goto 4, 3) := by decide +kernel
theorem dX9_reachedBy_77 : decode cX9_reachedBy 77 = .ok (.iconst 0, 1) := by decide +kernel
theorem dX9_reachedBy_78 : decode cX9_reachedBy 78 = .ok (.ior, 1) := by decide +kernel
theorem dX9_reachedBy_79 : decode cX9_reachedBy 79 = .ok (.istore_n 3, 1) := by decide +kernel
theorem dX9_reachedBy_80 : decode cX9_reachedBy 80 = .ok (.iinc 5 1, 3) := by decide +kernel
theorem dX9_reachedBy_83 : decode cX9_reachedBy 83 = .ok (.goto (-62), 3) := by decide +kernel
theorem dX9_reachedBy_86 : decode cX9_reachedBy 86 = .ok (.iinc 4 1, 3) := by decide +kernel
theorem dX9_reachedBy_89 : decode cX9_reachedBy 89 = .ok (.goto (-82), 3) := by decide +kernel
theorem dX9_reachedBy_92 : decode cX9_reachedBy 92 = .ok (.iload_n 3, 1) := by decide +kernel
theorem dX9_reachedBy_93 : decode cX9_reachedBy 93 = .ok (.ireturn, 1) := by decide +kernel
theorem dX9_choir_0 : decode cX9_choir 0 = .ok (.iconst 1, 1) := by decide +kernel
theorem dX9_choir_1 : decode cX9_choir 1 = .ok (.iload_n 1, 1) := by decide +kernel
theorem dX9_choir_2 : decode cX9_choir 2 = .ok (.ishl, 1) := by decide +kernel
theorem dX9_choir_3 : decode cX9_choir 3 = .ok (.istore_n 2, 1) := by decide +kernel
theorem dX9_choir_4 : decode cX9_choir 4 = .ok (.iconst 0, 1) := by decide +kernel
theorem dX9_choir_5 : decode cX9_choir 5 = .ok (.istore_n 3, 1) := by decide +kernel
theorem dX9_choir_6 : decode cX9_choir 6 = .ok (.iload_n 3, 1) := by decide +kernel
theorem dX9_choir_7 : decode cX9_choir 7 = .ok (.aload_n 0, 1) := by decide +kernel
theorem dX9_choir_8 : decode cX9_choir 8 = .ok (.getfield 7, 3) := by decide +kernel
theorem dX9_choir_11 : decode cX9_choir 11 = .ok (.iconst 2, 1) := by decide +kernel
theorem dX9_choir_12 : decode cX9_choir 12 = .ok (.iaload, 1) := by decide +kernel
theorem dX9_choir_13 : decode cX9_choir 13 = .ok (.if_icmp .ge 103, 3) := by decide +kernel
theorem dX9_choir_16 : decode cX9_choir 16 = .ok (.iconst 0, 1) := by decide +kernel
theorem dX9_choir_17 : decode cX9_choir 17 = .ok (.istore 4, 2) := by decide +kernel
theorem dX9_choir_19 : decode cX9_choir 19 = .ok (.iload 4, 2) := by decide +kernel
theorem dX9_choir_21 : decode cX9_choir 21 = .ok (.aload_n 0, 1) := by decide +kernel
theorem dX9_choir_22 : decode cX9_choir 22 = .ok (.getfield 7, 3) := by decide +kernel
theorem dX9_choir_25 : decode cX9_choir 25 = .ok (.iconst 2, 1) := by decide +kernel
theorem dX9_choir_26 : decode cX9_choir 26 = .ok (.iaload, 1) := by decide +kernel
theorem dX9_choir_27 : decode cX9_choir 27 = .ok (.if_icmp .ge 83, 3) := by decide +kernel
theorem dX9_choir_30 : decode cX9_choir 30 = .ok (.iconst 0, 1) := by decide +kernel
theorem dX9_choir_31 : decode cX9_choir 31 = .ok (.istore 5, 2) := by decide +kernel
theorem dX9_choir_33 : decode cX9_choir 33 = .ok (.iload 5, 2) := by decide +kernel
theorem dX9_choir_35 : decode cX9_choir 35 = .ok (.aload_n 0, 1) := by decide +kernel
theorem dX9_choir_36 : decode cX9_choir 36 = .ok (.getfield 7, 3) := by decide +kernel
theorem dX9_choir_39 : decode cX9_choir 39 = .ok (.iconst 2, 1) := by decide +kernel
theorem dX9_choir_40 : decode cX9_choir 40 = .ok (.iaload, 1) := by decide +kernel
theorem dX9_choir_41 : decode cX9_choir 41 = .ok (.if_icmp .ge 63, 3) := by decide +kernel
theorem dX9_choir_44 : decode cX9_choir 44 = .ok (.iload_n 2, 1) := by decide +kernel
theorem dX9_choir_45 : decode cX9_choir 45 = .ok (.iload 4, 2) := by decide +kernel
theorem dX9_choir_47 : decode cX9_choir 47 = .ok (.ishr, 1) := by decide +kernel
theorem dX9_choir_48 : decode cX9_choir 48 = .ok (.iconst 1, 1) := by decide +kernel
theorem dX9_choir_49 : decode cX9_choir 49 = .ok (.iand, 1) := by decide +kernel
theorem dX9_choir_50 : decode cX9_choir 50 = .ok (.iconst 1, 1) := by decide +kernel
theorem dX9_choir_51 : decode cX9_choir 51 = .ok (.if_icmp .ne 28, 3) := by decide +kernel
theorem dX9_choir_54 : decode cX9_choir 54 = .ok (.aload_n 0, 1) := by decide +kernel
theorem dX9_choir_55 : decode cX9_choir 55 = .ok (.aload_n 0, 1) := by decide +kernel
theorem dX9_choir_56 : decode cX9_choir 56 = .ok (.iload 4, 2) := by decide +kernel
theorem dX9_choir_58 : decode cX9_choir 58 = .ok (.iconst 3, 1) := by decide +kernel
theorem dX9_choir_59 : decode cX9_choir 59 = .ok (.invokevirtual 64, 3) := by decide +kernel
theorem dX9_choir_62 : decode cX9_choir 62 = .ok (.aload_n 0, 1) := by decide +kernel
theorem dX9_choir_63 : decode cX9_choir 63 = .ok (.iload 5, 2) := by decide +kernel
theorem dX9_choir_65 : decode cX9_choir 65 = .ok (.iconst 3, 1) := by decide +kernel
theorem dX9_choir_66 : decode cX9_choir 66 = .ok (.invokevirtual 64, 3) := by decide +kernel
theorem dX9_choir_69 : decode cX9_choir 69 = .ok (.invokevirtual 102, 3) := by decide +kernel
theorem dX9_choir_72 : decode cX9_choir 72 = .ok (.ifCond .le 7, 3) := by decide +kernel
theorem dX9_choir_75 : decode cX9_choir 75 = .ok (.iconst 1, 1) := by decide +kernel
theorem dX9_choir_76 : decode cX9_choir 76 = .ok (.goto 4, 3) := by decide +kernel
theorem dX9_choir_79 : decode cX9_choir 79 = .ok (.iconst 0, 1) := by decide +kernel
theorem dX9_choir_80 : decode cX9_choir 80 = .ok (.istore 6, 2) := by decide +kernel
theorem dX9_choir_82 : decode cX9_choir 82 = .ok (.iload_n 2, 1) := by decide +kernel
theorem dX9_choir_83 : decode cX9_choir 83 = .ok (.iload 6, 2) := by decide +kernel
theorem dX9_choir_85 : decode cX9_choir 85 = .ok (.ifCond .eq 10, 3) := by decide +kernel
theorem dX9_choir_88 : decode cX9_choir 88 = .ok (.iconst 1, 1) := by decide +kernel
theorem dX9_choir_89 : decode cX9_choir 89 = .ok (.iload 5, 2) := by decide +kernel
theorem dX9_choir_91 : decode cX9_choir 91 = .ok (.ishl, 1) := by decide +kernel
theorem dX9_choir_92 : decode cX9_choir 92 = .ok (.goto 4, 3) := by decide +kernel
theorem dX9_choir_95 : decode cX9_choir 95 = .ok (.iconst 0, 1) := by decide +kernel
theorem dX9_choir_96 : decode cX9_choir 96 = .ok (.ior, 1) := by decide +kernel
theorem dX9_choir_97 : decode cX9_choir 97 = .ok (.istore_n 2, 1) := by decide +kernel
theorem dX9_choir_98 : decode cX9_choir 98 = .ok (.iinc 5 1, 3) := by decide +kernel
theorem dX9_choir_101 : decode cX9_choir 101 = .ok (.goto (-68), 3) := by decide +kernel
theorem dX9_choir_104 : decode cX9_choir 104 = .ok (.iinc 4 1, 3) := by decide +kernel
theorem dX9_choir_107 : decode cX9_choir 107 = .ok (.goto (-88), 3) := by decide +kernel
theorem dX9_choir_110 : decode cX9_choir 110 = .ok (.iinc 3 1, 3) := by decide +kernel
theorem dX9_choir_113 : decode cX9_choir 113 = .ok (.goto (-107), 3) := by decide +kernel
theorem dX9_choir_116 : decode cX9_choir 116 = .ok (.iload_n 2, 1) := by decide +kernel
theorem dX9_choir_117 : decode cX9_choir 117 = .ok (.ireturn, 1) := by decide +kernel
theorem dX9_bits_0 : decode cX9_bits 0 = .ok (.iconst 0, 1) := by decide +kernel
theorem dX9_bits_1 : decode cX9_bits 1 = .ok (.istore_n 1, 1) := by decide +kernel
theorem dX9_bits_2 : decode cX9_bits 2 = .ok (.iload_n 0, 1) := by decide +kernel
theorem dX9_bits_3 : decode cX9_bits 3 = .ok (.istore_n 2, 1) := by decide +kernel
theorem dX9_bits_4 : decode cX9_bits 4 = .ok (.iload_n 2, 1) := by decide +kernel
theorem dX9_bits_5 : decode cX9_bits 5 = .ok (.ifCond .le 16, 3) := by decide +kernel
theorem dX9_bits_8 : decode cX9_bits 8 = .ok (.iload_n 1, 1) := by decide +kernel
theorem dX9_bits_9 : decode cX9_bits 9 = .ok (.iload_n 2, 1) := by decide +kernel
theorem dX9_bits_10 : decode cX9_bits 10 = .ok (.iconst 2, 1) := by decide +kernel
theorem dX9_bits_11 : decode cX9_bits 11 = .ok (.irem, 1) := by decide +kernel
theorem dX9_bits_12 : decode cX9_bits 12 = .ok (.iadd, 1) := by decide +kernel
theorem dX9_bits_13 : decode cX9_bits 13 = .ok (.istore_n 1, 1) := by decide +kernel
theorem dX9_bits_14 : decode cX9_bits 14 = .ok (.iload_n 2, 1) := by decide +kernel
theorem dX9_bits_15 : decode cX9_bits 15 = .ok (.iconst 2, 1) := by decide +kernel
theorem dX9_bits_16 : decode cX9_bits 16 = .ok (.idiv, 1) := by decide +kernel
theorem dX9_bits_17 : decode cX9_bits 17 = .ok (.istore_n 2, 1) := by decide +kernel
theorem dX9_bits_18 : decode cX9_bits 18 = .ok (.goto (-14), 3) := by decide +kernel
theorem dX9_bits_21 : decode cX9_bits 21 = .ok (.iload_n 1, 1) := by decide +kernel
theorem dX9_bits_22 : decode cX9_bits 22 = .ok (.ireturn, 1) := by decide +kernel
theorem dX9_greatestChoir_0 : decode cX9_greatestChoir 0 = .ok (.iconst 0, 1) := by decide +kernel
theorem dX9_greatestChoir_1 : decode cX9_greatestChoir 1 = .ok (.istore_n 1, 1) := by decide +kernel
theorem dX9_greatestChoir_2 : decode cX9_greatestChoir 2 = .ok (.iconst 0, 1) := by decide +kernel
theorem dX9_greatestChoir_3 : decode cX9_greatestChoir 3 = .ok (.istore_n 2, 1) := by decide +kernel
theorem dX9_greatestChoir_4 : decode cX9_greatestChoir 4 = .ok (.iload_n 2, 1) := by decide +kernel
theorem dX9_greatestChoir_5 : decode cX9_greatestChoir 5 = .ok (.aload_n 0, 1) := by decide +kernel
theorem dX9_greatestChoir_6 : decode cX9_greatestChoir 6 = .ok (.getfield 7, 3) := by decide +kernel
theorem dX9_greatestChoir_9 : decode cX9_greatestChoir 9 = .ok (.iconst 2, 1) := by decide +kernel
theorem dX9_greatestChoir_10 : decode cX9_greatestChoir 10 = .ok (.iaload, 1) := by decide +kernel
theorem dX9_greatestChoir_11 : decode cX9_greatestChoir 11 = .ok (.if_icmp .ge 32, 3) := by decide +kernel
theorem dX9_greatestChoir_14 : decode cX9_greatestChoir 14 = .ok (.aload_n 0, 1) := by decide +kernel
theorem dX9_greatestChoir_15 : decode cX9_greatestChoir 15 = .ok (.iload_n 2, 1) := by decide +kernel
theorem dX9_greatestChoir_16 : decode cX9_greatestChoir 16 = .ok (.invokevirtual 112, 3) := by decide +kernel
theorem dX9_greatestChoir_19 : decode cX9_greatestChoir 19 = .ok (.istore_n 3, 1) := by decide +kernel
theorem dX9_greatestChoir_20 : decode cX9_greatestChoir 20 = .ok (.iload_n 3, 1) := by decide +kernel
theorem dX9_greatestChoir_21 : decode cX9_greatestChoir 21 = .ok (.invokestatic 115, 3) := by decide +kernel
theorem dX9_greatestChoir_24 : decode cX9_greatestChoir 24 = .ok (.iload_n 1, 1) := by decide +kernel
theorem dX9_greatestChoir_25 : decode cX9_greatestChoir 25 = .ok (.invokestatic 115, 3) := by decide +kernel
theorem dX9_greatestChoir_28 : decode cX9_greatestChoir 28 = .ok (.if_icmp .le 7, 3) := by decide +kernel
theorem dX9_greatestChoir_31 : decode cX9_greatestChoir 31 = .ok (.iload_n 3, 1) := by decide +kernel
theorem dX9_greatestChoir_32 : decode cX9_greatestChoir 32 = .ok (.goto 4, 3) := by decide +kernel
theorem dX9_greatestChoir_35 : decode cX9_greatestChoir 35 = .ok (.iload_n 1, 1) := by decide +kernel
theorem dX9_greatestChoir_36 : decode cX9_greatestChoir 36 = .ok (.istore_n 1, 1) := by decide +kernel
theorem dX9_greatestChoir_37 : decode cX9_greatestChoir 37 = .ok (.iinc 2 1, 3) := by decide +kernel
theorem dX9_greatestChoir_40 : decode cX9_greatestChoir 40 = .ok (.goto (-36), 3) := by decide +kernel
theorem dX9_greatestChoir_43 : decode cX9_greatestChoir 43 = .ok (.iload_n 1, 1) := by decide +kernel
theorem dX9_greatestChoir_44 : decode cX9_greatestChoir 44 = .ok (.ireturn, 1) := by decide +kernel
theorem dX9_warmestPlace_0 : decode cX9_warmestPlace 0 = .ok (.iconst (-1), 1) := by decide +kernel
theorem dX9_warmestPlace_1 : decode cX9_warmestPlace 1 = .ok (.istore_n 1, 1) := by decide +kernel
theorem dX9_warmestPlace_2 : decode cX9_warmestPlace 2 = .ok (.iconst 0, 1) := by decide +kernel
theorem dX9_warmestPlace_3 : decode cX9_warmestPlace 3 = .ok (.istore_n 2, 1) := by decide +kernel
theorem dX9_warmestPlace_4 : decode cX9_warmestPlace 4 = .ok (.iload_n 2, 1) := by decide +kernel
theorem dX9_warmestPlace_5 : decode cX9_warmestPlace 5 = .ok (.aload_n 0, 1) := by decide +kernel
theorem dX9_warmestPlace_6 : decode cX9_warmestPlace 6 = .ok (.getfield 7, 3) := by decide +kernel
theorem dX9_warmestPlace_9 : decode cX9_warmestPlace 9 = .ok (.iconst 0, 1) := by decide +kernel
theorem dX9_warmestPlace_10 : decode cX9_warmestPlace 10 = .ok (.iaload, 1) := by decide +kernel
theorem dX9_warmestPlace_11 : decode cX9_warmestPlace 11 = .ok (.if_icmp .ge 46, 3) := by decide +kernel
theorem dX9_warmestPlace_14 : decode cX9_warmestPlace 14 = .ok (.aload_n 0, 1) := by decide +kernel
theorem dX9_warmestPlace_15 : decode cX9_warmestPlace 15 = .ok (.iload_n 2, 1) := by decide +kernel
theorem dX9_warmestPlace_16 : decode cX9_warmestPlace 16 = .ok (.invokevirtual 87, 3) := by decide +kernel
theorem dX9_warmestPlace_19 : decode cX9_warmestPlace 19 = .ok (.iconst (-1), 1) := by decide +kernel
theorem dX9_warmestPlace_20 : decode cX9_warmestPlace 20 = .ok (.if_icmp .ne 31, 3) := by decide +kernel
theorem dX9_warmestPlace_23 : decode cX9_warmestPlace 23 = .ok (.iload_n 1, 1) := by decide +kernel
theorem dX9_warmestPlace_24 : decode cX9_warmestPlace 24 = .ok (.iconst (-1), 1) := by decide +kernel
theorem dX9_warmestPlace_25 : decode cX9_warmestPlace 25 = .ok (.if_icmp .eq 24, 3) := by decide +kernel
theorem dX9_warmestPlace_28 : decode cX9_warmestPlace 28 = .ok (.aload_n 0, 1) := by decide +kernel
theorem dX9_warmestPlace_29 : decode cX9_warmestPlace 29 = .ok (.getfield 7, 3) := by decide +kernel
theorem dX9_warmestPlace_32 : decode cX9_warmestPlace 32 = .ok (.bipush 10, 2) := by decide +kernel
theorem dX9_warmestPlace_34 : decode cX9_warmestPlace 34 = .ok (.iload_n 2, 1) := by decide +kernel
theorem dX9_warmestPlace_35 : decode cX9_warmestPlace 35 = .ok (.iadd, 1) := by decide +kernel
theorem dX9_warmestPlace_36 : decode cX9_warmestPlace 36 = .ok (.iaload, 1) := by decide +kernel
theorem dX9_warmestPlace_37 : decode cX9_warmestPlace 37 = .ok (.aload_n 0, 1) := by decide +kernel
theorem dX9_warmestPlace_38 : decode cX9_warmestPlace 38 = .ok (.getfield 7, 3) := by decide +kernel
theorem dX9_warmestPlace_41 : decode cX9_warmestPlace 41 = .ok (.bipush 10, 2) := by decide +kernel
theorem dX9_warmestPlace_43 : decode cX9_warmestPlace 43 = .ok (.iload_n 1, 1) := by decide +kernel
theorem dX9_warmestPlace_44 : decode cX9_warmestPlace 44 = .ok (.iadd, 1) := by decide +kernel
theorem dX9_warmestPlace_45 : decode cX9_warmestPlace 45 = .ok (.iaload, 1) := by decide +kernel
theorem dX9_warmestPlace_46 : decode cX9_warmestPlace 46 = .ok (.if_icmp .le 5, 3) := by decide +kernel
theorem dX9_warmestPlace_49 : decode cX9_warmestPlace 49 = .ok (.iload_n 2, 1) := by decide +kernel
theorem dX9_warmestPlace_50 : decode cX9_warmestPlace 50 = .ok (.istore_n 1, 1) := by decide +kernel
theorem dX9_warmestPlace_51 : decode cX9_warmestPlace 51 = .ok (.iinc 2 1, 3) := by decide +kernel
theorem dX9_warmestPlace_54 : decode cX9_warmestPlace 54 = .ok (.goto (-50), 3) := by decide +kernel
theorem dX9_warmestPlace_57 : decode cX9_warmestPlace 57 = .ok (.iload_n 1, 1) := by decide +kernel
theorem dX9_warmestPlace_58 : decode cX9_warmestPlace 58 = .ok (.ireturn, 1) := by decide +kernel
theorem dX9_builds_0 : decode cX9_builds 0 = .ok (.aload_n 0, 1) := by decide +kernel
theorem dX9_builds_1 : decode cX9_builds 1 = .ok (.getfield 7, 3) := by decide +kernel
theorem dX9_builds_4 : decode cX9_builds 4 = .ok (.bipush 10, 2) := by decide +kernel
theorem dX9_builds_6 : decode cX9_builds 6 = .ok (.aload_n 0, 1) := by decide +kernel
theorem dX9_builds_7 : decode cX9_builds 7 = .ok (.getfield 7, 3) := by decide +kernel
theorem dX9_builds_10 : decode cX9_builds 10 = .ok (.iconst 0, 1) := by decide +kernel
theorem dX9_builds_11 : decode cX9_builds 11 = .ok (.iaload, 1) := by decide +kernel
theorem dX9_builds_12 : decode cX9_builds 12 = .ok (.iadd, 1) := by decide +kernel
theorem dX9_builds_13 : decode cX9_builds 13 = .ok (.iload_n 1, 1) := by decide +kernel
theorem dX9_builds_14 : decode cX9_builds 14 = .ok (.iastore, 1) := by decide +kernel
theorem dX9_builds_15 : decode cX9_builds 15 = .ok (.aload_n 0, 1) := by decide +kernel
theorem dX9_builds_16 : decode cX9_builds 16 = .ok (.getfield 7, 3) := by decide +kernel
theorem dX9_builds_19 : decode cX9_builds 19 = .ok (.bipush 20, 2) := by decide +kernel
theorem dX9_builds_21 : decode cX9_builds 21 = .ok (.aload_n 0, 1) := by decide +kernel
theorem dX9_builds_22 : decode cX9_builds 22 = .ok (.getfield 7, 3) := by decide +kernel
theorem dX9_builds_25 : decode cX9_builds 25 = .ok (.iconst 0, 1) := by decide +kernel
theorem dX9_builds_26 : decode cX9_builds 26 = .ok (.iaload, 1) := by decide +kernel
theorem dX9_builds_27 : decode cX9_builds 27 = .ok (.iadd, 1) := by decide +kernel
theorem dX9_builds_28 : decode cX9_builds 28 = .ok (.iconst (-1), 1) := by decide +kernel
theorem dX9_builds_29 : decode cX9_builds 29 = .ok (.iastore, 1) := by decide +kernel
theorem dX9_builds_30 : decode cX9_builds 30 = .ok (.aload_n 0, 1) := by decide +kernel
theorem dX9_builds_31 : decode cX9_builds 31 = .ok (.getfield 7, 3) := by decide +kernel
theorem dX9_builds_34 : decode cX9_builds 34 = .ok (.iconst 0, 1) := by decide +kernel
theorem dX9_builds_35 : decode cX9_builds 35 = .ok (.dup2, 1) := by decide +kernel
theorem dX9_builds_36 : decode cX9_builds 36 = .ok (.iaload, 1) := by decide +kernel
theorem dX9_builds_37 : decode cX9_builds 37 = .ok (.iconst 1, 1) := by decide +kernel
theorem dX9_builds_38 : decode cX9_builds 38 = .ok (.iadd, 1) := by decide +kernel
theorem dX9_builds_39 : decode cX9_builds 39 = .ok (.iastore, 1) := by decide +kernel
theorem dX9_builds_40 : decode cX9_builds 40 = .ok (.aload_n 0, 1) := by decide +kernel
theorem dX9_builds_41 : decode cX9_builds 41 = .ok (.getfield 7, 3) := by decide +kernel
theorem dX9_builds_44 : decode cX9_builds 44 = .ok (.iconst 0, 1) := by decide +kernel
theorem dX9_builds_45 : decode cX9_builds 45 = .ok (.iaload, 1) := by decide +kernel
theorem dX9_builds_46 : decode cX9_builds 46 = .ok (.iconst 1, 1) := by decide +kernel
theorem dX9_builds_47 : decode cX9_builds 47 = .ok (.isub, 1) := by decide +kernel
theorem dX9_builds_48 : decode cX9_builds 48 = .ok (.ireturn, 1) := by decide +kernel
theorem dX9_lays_0 : decode cX9_lays 0 = .ok (.bipush 30, 2) := by decide +kernel
theorem dX9_lays_2 : decode cX9_lays 2 = .ok (.iconst 3, 1) := by decide +kernel
theorem dX9_lays_3 : decode cX9_lays 3 = .ok (.aload_n 0, 1) := by decide +kernel
theorem dX9_lays_4 : decode cX9_lays 4 = .ok (.getfield 7, 3) := by decide +kernel
theorem dX9_lays_7 : decode cX9_lays 7 = .ok (.iconst 1, 1) := by decide +kernel
theorem dX9_lays_8 : decode cX9_lays 8 = .ok (.iaload, 1) := by decide +kernel
theorem dX9_lays_9 : decode cX9_lays 9 = .ok (.imul, 1) := by decide +kernel
theorem dX9_lays_10 : decode cX9_lays 10 = .ok (.iadd, 1) := by decide +kernel
theorem dX9_lays_11 : decode cX9_lays 11 = .ok (.istore 4, 2) := by decide +kernel
theorem dX9_lays_13 : decode cX9_lays 13 = .ok (.aload_n 0, 1) := by decide +kernel
theorem dX9_lays_14 : decode cX9_lays 14 = .ok (.getfield 7, 3) := by decide +kernel
theorem dX9_lays_17 : decode cX9_lays 17 = .ok (.iload 4, 2) := by decide +kernel
theorem dX9_lays_19 : decode cX9_lays 19 = .ok (.iconst 0, 1) := by decide +kernel
theorem dX9_lays_20 : decode cX9_lays 20 = .ok (.iadd, 1) := by decide +kernel
theorem dX9_lays_21 : decode cX9_lays 21 = .ok (.iload_n 1, 1) := by decide +kernel
theorem dX9_lays_22 : decode cX9_lays 22 = .ok (.iastore, 1) := by decide +kernel
theorem dX9_lays_23 : decode cX9_lays 23 = .ok (.aload_n 0, 1) := by decide +kernel
theorem dX9_lays_24 : decode cX9_lays 24 = .ok (.getfield 7, 3) := by decide +kernel
theorem dX9_lays_27 : decode cX9_lays 27 = .ok (.iload 4, 2) := by decide +kernel
theorem dX9_lays_29 : decode cX9_lays 29 = .ok (.iconst 1, 1) := by decide +kernel
theorem dX9_lays_30 : decode cX9_lays 30 = .ok (.iadd, 1) := by decide +kernel
theorem dX9_lays_31 : decode cX9_lays 31 = .ok (.iload_n 2, 1) := by decide +kernel
theorem dX9_lays_32 : decode cX9_lays 32 = .ok (.iastore, 1) := by decide +kernel
theorem dX9_lays_33 : decode cX9_lays 33 = .ok (.aload_n 0, 1) := by decide +kernel
theorem dX9_lays_34 : decode cX9_lays 34 = .ok (.getfield 7, 3) := by decide +kernel
theorem dX9_lays_37 : decode cX9_lays 37 = .ok (.iload 4, 2) := by decide +kernel
theorem dX9_lays_39 : decode cX9_lays 39 = .ok (.iconst 2, 1) := by decide +kernel
theorem dX9_lays_40 : decode cX9_lays 40 = .ok (.iadd, 1) := by decide +kernel
theorem dX9_lays_41 : decode cX9_lays 41 = .ok (.iload_n 3, 1) := by decide +kernel
theorem dX9_lays_42 : decode cX9_lays 42 = .ok (.iastore, 1) := by decide +kernel
theorem dX9_lays_43 : decode cX9_lays 43 = .ok (.aload_n 0, 1) := by decide +kernel
theorem dX9_lays_44 : decode cX9_lays 44 = .ok (.getfield 7, 3) := by decide +kernel
theorem dX9_lays_47 : decode cX9_lays 47 = .ok (.iconst 1, 1) := by decide +kernel
theorem dX9_lays_48 : decode cX9_lays 48 = .ok (.dup2, 1) := by decide +kernel
theorem dX9_lays_49 : decode cX9_lays 49 = .ok (.iaload, 1) := by decide +kernel
theorem dX9_lays_50 : decode cX9_lays 50 = .ok (.iconst 1, 1) := by decide +kernel
theorem dX9_lays_51 : decode cX9_lays 51 = .ok (.iadd, 1) := by decide +kernel
theorem dX9_lays_52 : decode cX9_lays 52 = .ok (.iastore, 1) := by decide +kernel
theorem dX9_lays_53 : decode cX9_lays 53 = .ok (.aload_n 0, 1) := by decide +kernel
theorem dX9_lays_54 : decode cX9_lays 54 = .ok (.getfield 7, 3) := by decide +kernel
theorem dX9_lays_57 : decode cX9_lays 57 = .ok (.iconst 1, 1) := by decide +kernel
theorem dX9_lays_58 : decode cX9_lays 58 = .ok (.iaload, 1) := by decide +kernel
theorem dX9_lays_59 : decode cX9_lays 59 = .ok (.iconst 1, 1) := by decide +kernel
theorem dX9_lays_60 : decode cX9_lays 60 = .ok (.isub, 1) := by decide +kernel
theorem dX9_lays_61 : decode cX9_lays 61 = .ok (.ireturn, 1) := by decide +kernel
theorem dX9_enters_0 : decode cX9_enters 0 = .ok (.aload_n 0, 1) := by decide +kernel
theorem dX9_enters_1 : decode cX9_enters 1 = .ok (.getfield 7, 3) := by decide +kernel
theorem dX9_enters_4 : decode cX9_enters 4 = .ok (.iconst 2, 1) := by decide +kernel
theorem dX9_enters_5 : decode cX9_enters 5 = .ok (.iaload, 1) := by decide +kernel
theorem dX9_enters_6 : decode cX9_enters 6 = .ok (.istore 4, 2) := by decide +kernel
theorem dX9_enters_8 : decode cX9_enters 8 = .ok (.aload_n 0, 1) := by decide +kernel
theorem dX9_enters_9 : decode cX9_enters 9 = .ok (.getfield 7, 3) := by decide +kernel
theorem dX9_enters_12 : decode cX9_enters 12 = .ok (.iconst 2, 1) := by decide +kernel
theorem dX9_enters_13 : decode cX9_enters 13 = .ok (.dup2, 1) := by decide +kernel
theorem dX9_enters_14 : decode cX9_enters 14 = .ok (.iaload, 1) := by decide +kernel
theorem dX9_enters_15 : decode cX9_enters 15 = .ok (.iconst 1, 1) := by decide +kernel
theorem dX9_enters_16 : decode cX9_enters 16 = .ok (.iadd, 1) := by decide +kernel
theorem dX9_enters_17 : decode cX9_enters 17 = .ok (.iastore, 1) := by decide +kernel
theorem dX9_enters_18 : decode cX9_enters 18 = .ok (.aload_n 0, 1) := by decide +kernel
theorem dX9_enters_19 : decode cX9_enters 19 = .ok (.iload 4, 2) := by decide +kernel
theorem dX9_enters_21 : decode cX9_enters 21 = .ok (.iconst 0, 1) := by decide +kernel
theorem dX9_enters_22 : decode cX9_enters 22 = .ok (.iload_n 2, 1) := by decide +kernel
theorem dX9_enters_23 : decode cX9_enters 23 = .ok (.invokevirtual 118, 3) := by decide +kernel
theorem dX9_enters_26 : decode cX9_enters 26 = .ok (.aload_n 0, 1) := by decide +kernel
theorem dX9_enters_27 : decode cX9_enters 27 = .ok (.iload 4, 2) := by decide +kernel
theorem dX9_enters_29 : decode cX9_enters 29 = .ok (.iconst 1, 1) := by decide +kernel
theorem dX9_enters_30 : decode cX9_enters 30 = .ok (.iload_n 3, 1) := by decide +kernel
theorem dX9_enters_31 : decode cX9_enters 31 = .ok (.invokevirtual 118, 3) := by decide +kernel
theorem dX9_enters_34 : decode cX9_enters 34 = .ok (.aload_n 0, 1) := by decide +kernel
theorem dX9_enters_35 : decode cX9_enters 35 = .ok (.iload 4, 2) := by decide +kernel
theorem dX9_enters_37 : decode cX9_enters 37 = .ok (.iconst 2, 1) := by decide +kernel
theorem dX9_enters_38 : decode cX9_enters 38 = .ok (.iconst 5, 1) := by decide +kernel
theorem dX9_enters_39 : decode cX9_enters 39 = .ok (.invokevirtual 118, 3) := by decide +kernel
theorem dX9_enters_42 : decode cX9_enters 42 = .ok (.aload_n 0, 1) := by decide +kernel
theorem dX9_enters_43 : decode cX9_enters 43 = .ok (.iload 4, 2) := by decide +kernel
theorem dX9_enters_45 : decode cX9_enters 45 = .ok (.iconst 3, 1) := by decide +kernel
theorem dX9_enters_46 : decode cX9_enters 46 = .ok (.iload_n 1, 1) := by decide +kernel
theorem dX9_enters_47 : decode cX9_enters 47 = .ok (.invokevirtual 118, 3) := by decide +kernel
theorem dX9_enters_50 : decode cX9_enters 50 = .ok (.iload 4, 2) := by decide +kernel
theorem dX9_enters_52 : decode cX9_enters 52 = .ok (.ireturn, 1) := by decide +kernel
theorem dX9_canEnter_0 : decode cX9_canEnter 0 = .ok (.aload_n 0, 1) := by decide +kernel
theorem dX9_canEnter_1 : decode cX9_canEnter 1 = .ok (.getfield 7, 3) := by decide +kernel
theorem dX9_canEnter_4 : decode cX9_canEnter 4 = .ok (.iconst 2, 1) := by decide +kernel
theorem dX9_canEnter_5 : decode cX9_canEnter 5 = .ok (.iaload, 1) := by decide +kernel
theorem dX9_canEnter_6 : decode cX9_canEnter 6 = .ok (.bipush 8, 2) := by decide +kernel
theorem dX9_canEnter_8 : decode cX9_canEnter 8 = .ok (.if_icmp .ge 16, 3) := by decide +kernel
theorem dX9_canEnter_11 : decode cX9_canEnter 11 = .ok (.aload_n 0, 1) := by decide +kernel
theorem dX9_canEnter_12 : decode cX9_canEnter 12 = .ok (.iload_n 1, 1) := by decide +kernel
theorem dX9_canEnter_13 : decode cX9_canEnter 13 = .ok (.invokevirtual 87, 3) := by decide +kernel
theorem dX9_canEnter_16 : decode cX9_canEnter 16 = .ok (.iconst (-1), 1) := by decide +kernel
theorem dX9_canEnter_17 : decode cX9_canEnter 17 = .ok (.if_icmp .ne 7, 3) := by decide +kernel
theorem dX9_canEnter_20 : decode cX9_canEnter 20 = .ok (.iconst 1, 1) := by decide +kernel
theorem dX9_canEnter_21 : decode cX9_canEnter 21 = .ok (.goto 4, 3) := by decide +kernel
theorem dX9_canEnter_24 : decode cX9_canEnter 24 = .ok (.iconst 0, 1) := by decide +kernel
theorem dX9_canEnter_25 : decode cX9_canEnter 25 = .ok (.ireturn, 1) := by decide +kernel
theorem dX9_goes_0 : decode cX9_goes 0 = .ok (.aload_n 0, 1) := by decide +kernel
theorem dX9_goes_1 : decode cX9_goes 1 = .ok (.iload_n 1, 1) := by decide +kernel
theorem dX9_goes_2 : decode cX9_goes 2 = .ok (.iconst 3, 1) := by decide +kernel
theorem dX9_goes_3 : decode cX9_goes 3 = .ok (.aload_n 0, 1) := by decide +kernel
theorem dX9_goes_4 : decode cX9_goes 4 = .ok (.iload_n 2, 1) := by decide +kernel
theorem dX9_goes_5 : decode cX9_goes 5 = .ok (.aload_n 0, 1) := by decide +kernel
theorem dX9_goes_6 : decode cX9_goes 6 = .ok (.iload_n 1, 1) := by decide +kernel
theorem dX9_goes_7 : decode cX9_goes 7 = .ok (.iconst 3, 1) := by decide +kernel
theorem dX9_goes_8 : decode cX9_goes 8 = .ok (.invokevirtual 64, 3) := by decide +kernel
theorem dX9_goes_11 : decode cX9_goes 11 = .ok (.invokevirtual 93, 3) := by decide +kernel
theorem dX9_goes_14 : decode cX9_goes 14 = .ok (.invokevirtual 118, 3) := by decide +kernel
theorem dX9_goes_17 : decode cX9_goes 17 = .ok (.aload_n 0, 1) := by decide +kernel
theorem dX9_goes_18 : decode cX9_goes 18 = .ok (.iload_n 1, 1) := by decide +kernel
theorem dX9_goes_19 : decode cX9_goes 19 = .ok (.iconst 3, 1) := by decide +kernel
theorem dX9_goes_20 : decode cX9_goes 20 = .ok (.invokevirtual 64, 3) := by decide +kernel
theorem dX9_goes_23 : decode cX9_goes 23 = .ok (.ireturn, 1) := by decide +kernel
theorem dX9_claims_0 : decode cX9_claims 0 = .ok (.aload_n 0, 1) := by decide +kernel
theorem dX9_claims_1 : decode cX9_claims 1 = .ok (.getfield 7, 3) := by decide +kernel
theorem dX9_claims_4 : decode cX9_claims 4 = .ok (.bipush 20, 2) := by decide +kernel
theorem dX9_claims_6 : decode cX9_claims 6 = .ok (.aload_n 0, 1) := by decide +kernel
theorem dX9_claims_7 : decode cX9_claims 7 = .ok (.iload_n 1, 1) := by decide +kernel
theorem dX9_claims_8 : decode cX9_claims 8 = .ok (.iconst 3, 1) := by decide +kernel
theorem dX9_claims_9 : decode cX9_claims 9 = .ok (.invokevirtual 64, 3) := by decide +kernel
theorem dX9_claims_12 : decode cX9_claims 12 = .ok (.iadd, 1) := by decide +kernel
theorem dX9_claims_13 : decode cX9_claims 13 = .ok (.iload_n 1, 1) := by decide +kernel
theorem dX9_claims_14 : decode cX9_claims 14 = .ok (.iastore, 1) := by decide +kernel
theorem dX9_claims_15 : decode cX9_claims 15 = .ok (.aload_n 0, 1) := by decide +kernel
theorem dX9_claims_16 : decode cX9_claims 16 = .ok (.iload_n 1, 1) := by decide +kernel
theorem dX9_claims_17 : decode cX9_claims 17 = .ok (.invokevirtual 99, 3) := by decide +kernel
theorem dX9_claims_20 : decode cX9_claims 20 = .ok (.ireturn, 1) := by decide +kernel
theorem dX9_leaves_0 : decode cX9_leaves 0 = .ok (.aload_n 0, 1) := by decide +kernel
theorem dX9_leaves_1 : decode cX9_leaves 1 = .ok (.iload_n 1, 1) := by decide +kernel
theorem dX9_leaves_2 : decode cX9_leaves 2 = .ok (.invokevirtual 68, 3) := by decide +kernel
theorem dX9_leaves_5 : decode cX9_leaves 5 = .ok (.istore_n 2, 1) := by decide +kernel
theorem dX9_leaves_6 : decode cX9_leaves 6 = .ok (.aload_n 0, 1) := by decide +kernel
theorem dX9_leaves_7 : decode cX9_leaves 7 = .ok (.getfield 7, 3) := by decide +kernel
theorem dX9_leaves_10 : decode cX9_leaves 10 = .ok (.bipush 20, 2) := by decide +kernel
theorem dX9_leaves_12 : decode cX9_leaves 12 = .ok (.iload_n 1, 1) := by decide +kernel
theorem dX9_leaves_13 : decode cX9_leaves 13 = .ok (.iadd, 1) := by decide +kernel
theorem dX9_leaves_14 : decode cX9_leaves 14 = .ok (.iconst (-1), 1) := by decide +kernel
theorem dX9_leaves_15 : decode cX9_leaves 15 = .ok (.iastore, 1) := by decide +kernel
theorem dX9_leaves_16 : decode cX9_leaves 16 = .ok (.iload_n 2, 1) := by decide +kernel
theorem dX9_leaves_17 : decode cX9_leaves 17 = .ok (.ireturn, 1) := by decide +kernel
theorem dX9_chases_0 : decode cX9_chases 0 = .ok (.aload_n 0, 1) := by decide +kernel
theorem dX9_chases_1 : decode cX9_chases 1 = .ok (.iload_n 1, 1) := by decide +kernel
theorem dX9_chases_2 : decode cX9_chases 2 = .ok (.iconst 3, 1) := by decide +kernel
theorem dX9_chases_3 : decode cX9_chases 3 = .ok (.invokevirtual 64, 3) := by decide +kernel
theorem dX9_chases_6 : decode cX9_chases 6 = .ok (.istore_n 3, 1) := by decide +kernel
theorem dX9_chases_7 : decode cX9_chases 7 = .ok (.aload_n 0, 1) := by decide +kernel
theorem dX9_chases_8 : decode cX9_chases 8 = .ok (.iload_n 2, 1) := by decide +kernel
theorem dX9_chases_9 : decode cX9_chases 9 = .ok (.iconst 3, 1) := by decide +kernel
theorem dX9_chases_10 : decode cX9_chases 10 = .ok (.invokevirtual 64, 3) := by decide +kernel
theorem dX9_chases_13 : decode cX9_chases 13 = .ok (.istore 4, 2) := by decide +kernel
theorem dX9_chases_15 : decode cX9_chases 15 = .ok (.aload_n 0, 1) := by decide +kernel
theorem dX9_chases_16 : decode cX9_chases 16 = .ok (.iload 4, 2) := by decide +kernel
theorem dX9_chases_18 : decode cX9_chases 18 = .ok (.invokevirtual 68, 3) := by decide +kernel
theorem dX9_chases_21 : decode cX9_chases 21 = .ok (.iload_n 2, 1) := by decide +kernel
theorem dX9_chases_22 : decode cX9_chases 22 = .ok (.if_icmp .ne 27, 3) := by decide +kernel
theorem dX9_chases_25 : decode cX9_chases 25 = .ok (.aload_n 0, 1) := by decide +kernel
theorem dX9_chases_26 : decode cX9_chases 26 = .ok (.getfield 7, 3) := by decide +kernel
theorem dX9_chases_29 : decode cX9_chases 29 = .ok (.bipush 20, 2) := by decide +kernel
theorem dX9_chases_31 : decode cX9_chases 31 = .ok (.iload 4, 2) := by decide +kernel
theorem dX9_chases_33 : decode cX9_chases 33 = .ok (.iadd, 1) := by decide +kernel
theorem dX9_chases_34 : decode cX9_chases 34 = .ok (.aload_n 0, 1) := by decide +kernel
theorem dX9_chases_35 : decode cX9_chases 35 = .ok (.iload_n 1, 1) := by decide +kernel
theorem dX9_chases_36 : decode cX9_chases 36 = .ok (.invokevirtual 99, 3) := by decide +kernel
theorem dX9_chases_39 : decode cX9_chases 39 = .ok (.iconst 4, 1) := by decide +kernel
theorem dX9_chases_40 : decode cX9_chases 40 = .ok (.if_icmp .ge 7, 3) := by decide +kernel
theorem dX9_chases_43 : decode cX9_chases 43 = .ok (.iload_n 1, 1) := by decide +kernel
theorem dX9_chases_44 : decode cX9_chases 44 = .ok (.goto 4, 3) := by decide +kernel
theorem dX9_chases_47 : decode cX9_chases 47 = .ok (.iconst (-1), 1) := by decide +kernel
theorem dX9_chases_48 : decode cX9_chases 48 = .ok (.iastore, 1) := by decide +kernel
theorem dX9_chases_49 : decode cX9_chases 49 = .ok (.aload_n 0, 1) := by decide +kernel
theorem dX9_chases_50 : decode cX9_chases 50 = .ok (.iload_n 1, 1) := by decide +kernel
theorem dX9_chases_51 : decode cX9_chases 51 = .ok (.iconst 3, 1) := by decide +kernel
theorem dX9_chases_52 : decode cX9_chases 52 = .ok (.iload 4, 2) := by decide +kernel
theorem dX9_chases_54 : decode cX9_chases 54 = .ok (.invokevirtual 118, 3) := by decide +kernel
theorem dX9_chases_57 : decode cX9_chases 57 = .ok (.aload_n 0, 1) := by decide +kernel
theorem dX9_chases_58 : decode cX9_chases 58 = .ok (.iload_n 2, 1) := by decide +kernel
theorem dX9_chases_59 : decode cX9_chases 59 = .ok (.iconst 3, 1) := by decide +kernel
theorem dX9_chases_60 : decode cX9_chases 60 = .ok (.iload_n 3, 1) := by decide +kernel
theorem dX9_chases_61 : decode cX9_chases 61 = .ok (.invokevirtual 118, 3) := by decide +kernel
theorem dX9_chases_64 : decode cX9_chases 64 = .ok (.aload_n 0, 1) := by decide +kernel
theorem dX9_chases_65 : decode cX9_chases 65 = .ok (.iload_n 2, 1) := by decide +kernel
theorem dX9_chases_66 : decode cX9_chases 66 = .ok (.iconst 2, 1) := by decide +kernel
theorem dX9_chases_67 : decode cX9_chases 67 = .ok (.invokevirtual 64, 3) := by decide +kernel
theorem dX9_chases_70 : decode cX9_chases 70 = .ok (.ifCond .le 42, 3) := by decide +kernel
theorem dX9_chases_73 : decode cX9_chases 73 = .ok (.aload_n 0, 1) := by decide +kernel
theorem dX9_chases_74 : decode cX9_chases 74 = .ok (.iload_n 1, 1) := by decide +kernel
theorem dX9_chases_75 : decode cX9_chases 75 = .ok (.iconst 2, 1) := by decide +kernel
theorem dX9_chases_76 : decode cX9_chases 76 = .ok (.invokevirtual 64, 3) := by decide +kernel
theorem dX9_chases_79 : decode cX9_chases 79 = .ok (.bipush 99, 2) := by decide +kernel
theorem dX9_chases_81 : decode cX9_chases 81 = .ok (.if_icmp .ge 31, 3) := by decide +kernel
theorem dX9_chases_84 : decode cX9_chases 84 = .ok (.aload_n 0, 1) := by decide +kernel
theorem dX9_chases_85 : decode cX9_chases 85 = .ok (.iload_n 2, 1) := by decide +kernel
theorem dX9_chases_86 : decode cX9_chases 86 = .ok (.iconst 2, 1) := by decide +kernel
theorem dX9_chases_87 : decode cX9_chases 87 = .ok (.aload_n 0, 1) := by decide +kernel
theorem dX9_chases_88 : decode cX9_chases 88 = .ok (.iload_n 2, 1) := by decide +kernel
theorem dX9_chases_89 : decode cX9_chases 89 = .ok (.iconst 2, 1) := by decide +kernel
theorem dX9_chases_90 : decode cX9_chases 90 = .ok (.invokevirtual 64, 3) := by decide +kernel
theorem dX9_chases_93 : decode cX9_chases 93 = .ok (.iconst 1, 1) := by decide +kernel
theorem dX9_chases_94 : decode cX9_chases 94 = .ok (.isub, 1) := by decide +kernel
theorem dX9_chases_95 : decode cX9_chases 95 = .ok (.invokevirtual 118, 3) := by decide +kernel
theorem dX9_chases_98 : decode cX9_chases 98 = .ok (.aload_n 0, 1) := by decide +kernel
theorem dX9_chases_99 : decode cX9_chases 99 = .ok (.iload_n 1, 1) := by decide +kernel
theorem dX9_chases_100 : decode cX9_chases 100 = .ok (.iconst 2, 1) := by decide +kernel
theorem dX9_chases_101 : decode cX9_chases 101 = .ok (.aload_n 0, 1) := by decide +kernel
theorem dX9_chases_102 : decode cX9_chases 102 = .ok (.iload_n 1, 1) := by decide +kernel
theorem dX9_chases_103 : decode cX9_chases 103 = .ok (.iconst 2, 1) := by decide +kernel
theorem dX9_chases_104 : decode cX9_chases 104 = .ok (.invokevirtual 64, 3) := by decide +kernel
theorem dX9_chases_107 : decode cX9_chases 107 = .ok (.iconst 1, 1) := by decide +kernel
theorem dX9_chases_108 : decode cX9_chases 108 = .ok (.iadd, 1) := by decide +kernel
theorem dX9_chases_109 : decode cX9_chases 109 = .ok (.invokevirtual 118, 3) := by decide +kernel
theorem dX9_chases_112 : decode cX9_chases 112 = .ok (.aload_n 0, 1) := by decide +kernel
theorem dX9_chases_113 : decode cX9_chases 113 = .ok (.iload 4, 2) := by decide +kernel
theorem dX9_chases_115 : decode cX9_chases 115 = .ok (.invokevirtual 68, 3) := by decide +kernel
theorem dX9_chases_118 : decode cX9_chases 118 = .ok (.iload_n 1, 1) := by decide +kernel
theorem dX9_chases_119 : decode cX9_chases 119 = .ok (.if_icmp .ne 7, 3) := by decide +kernel
theorem dX9_chases_122 : decode cX9_chases 122 = .ok (.iconst 1, 1) := by decide +kernel
theorem dX9_chases_123 : decode cX9_chases 123 = .ok (.goto 4, 3) := by decide +kernel
theorem dX9_chases_126 : decode cX9_chases 126 = .ok (.iconst 0, 1) := by decide +kernel
theorem dX9_chases_127 : decode cX9_chases 127 = .ok (.ireturn, 1) := by decide +kernel
theorem dX9_canBuy_0 : decode cX9_canBuy 0 = .ok (.aload_n 0, 1) := by decide +kernel
theorem dX9_canBuy_1 : decode cX9_canBuy 1 = .ok (.iload_n 1, 1) := by decide +kernel
theorem dX9_canBuy_2 : decode cX9_canBuy 2 = .ok (.iload_n 2, 1) := by decide +kernel
theorem dX9_canBuy_3 : decode cX9_canBuy 3 = .ok (.invokevirtual 90, 3) := by decide +kernel
theorem dX9_canBuy_6 : decode cX9_canBuy 6 = .ok (.ifCond .ne 30, 3) := by decide +kernel
theorem dX9_canBuy_9 : decode cX9_canBuy 9 = .ok (.aload_n 0, 1) := by decide +kernel
theorem dX9_canBuy_10 : decode cX9_canBuy 10 = .ok (.iload_n 1, 1) := by decide +kernel
theorem dX9_canBuy_11 : decode cX9_canBuy 11 = .ok (.iconst 2, 1) := by decide +kernel
theorem dX9_canBuy_12 : decode cX9_canBuy 12 = .ok (.invokevirtual 64, 3) := by decide +kernel
theorem dX9_canBuy_15 : decode cX9_canBuy 15 = .ok (.iload_n 3, 1) := by decide +kernel
theorem dX9_canBuy_16 : decode cX9_canBuy 16 = .ok (.if_icmp .lt 20, 3) := by decide +kernel
theorem dX9_canBuy_19 : decode cX9_canBuy 19 = .ok (.aload_n 0, 1) := by decide +kernel
theorem dX9_canBuy_20 : decode cX9_canBuy 20 = .ok (.iload_n 2, 1) := by decide +kernel
theorem dX9_canBuy_21 : decode cX9_canBuy 21 = .ok (.iconst 2, 1) := by decide +kernel
theorem dX9_canBuy_22 : decode cX9_canBuy 22 = .ok (.invokevirtual 64, 3) := by decide +kernel
theorem dX9_canBuy_25 : decode cX9_canBuy 25 = .ok (.iload_n 3, 1) := by decide +kernel
theorem dX9_canBuy_26 : decode cX9_canBuy 26 = .ok (.iadd, 1) := by decide +kernel
theorem dX9_canBuy_27 : decode cX9_canBuy 27 = .ok (.bipush 99, 2) := by decide +kernel
theorem dX9_canBuy_29 : decode cX9_canBuy 29 = .ok (.if_icmp .gt 7, 3) := by decide +kernel
theorem dX9_canBuy_32 : decode cX9_canBuy 32 = .ok (.iconst 1, 1) := by decide +kernel
theorem dX9_canBuy_33 : decode cX9_canBuy 33 = .ok (.goto 4, 3) := by decide +kernel
theorem dX9_canBuy_36 : decode cX9_canBuy 36 = .ok (.iconst 0, 1) := by decide +kernel
theorem dX9_canBuy_37 : decode cX9_canBuy 37 = .ok (.ireturn, 1) := by decide +kernel
theorem dX9_buys_0 : decode cX9_buys 0 = .ok (.aload_n 0, 1) := by decide +kernel
theorem dX9_buys_1 : decode cX9_buys 1 = .ok (.iload_n 1, 1) := by decide +kernel
theorem dX9_buys_2 : decode cX9_buys 2 = .ok (.iconst 2, 1) := by decide +kernel
theorem dX9_buys_3 : decode cX9_buys 3 = .ok (.aload_n 0, 1) := by decide +kernel
theorem dX9_buys_4 : decode cX9_buys 4 = .ok (.iload_n 1, 1) := by decide +kernel
theorem dX9_buys_5 : decode cX9_buys 5 = .ok (.iconst 2, 1) := by decide +kernel
theorem dX9_buys_6 : decode cX9_buys 6 = .ok (.invokevirtual 64, 3) := by decide +kernel
theorem dX9_buys_9 : decode cX9_buys 9 = .ok (.iload_n 3, 1) := by decide +kernel
theorem dX9_buys_10 : decode cX9_buys 10 = .ok (.isub, 1) := by decide +kernel
theorem dX9_buys_11 : decode cX9_buys 11 = .ok (.invokevirtual 118, 3) := by decide +kernel
theorem dX9_buys_14 : decode cX9_buys 14 = .ok (.aload_n 0, 1) := by decide +kernel
theorem dX9_buys_15 : decode cX9_buys 15 = .ok (.iload_n 2, 1) := by decide +kernel
theorem dX9_buys_16 : decode cX9_buys 16 = .ok (.iconst 2, 1) := by decide +kernel
theorem dX9_buys_17 : decode cX9_buys 17 = .ok (.aload_n 0, 1) := by decide +kernel
theorem dX9_buys_18 : decode cX9_buys 18 = .ok (.iload_n 2, 1) := by decide +kernel
theorem dX9_buys_19 : decode cX9_buys 19 = .ok (.iconst 2, 1) := by decide +kernel
theorem dX9_buys_20 : decode cX9_buys 20 = .ok (.invokevirtual 64, 3) := by decide +kernel
theorem dX9_buys_23 : decode cX9_buys 23 = .ok (.iload_n 3, 1) := by decide +kernel
theorem dX9_buys_24 : decode cX9_buys 24 = .ok (.iadd, 1) := by decide +kernel
theorem dX9_buys_25 : decode cX9_buys 25 = .ok (.invokevirtual 118, 3) := by decide +kernel
theorem dX9_buys_28 : decode cX9_buys 28 = .ok (.aload_n 0, 1) := by decide +kernel
theorem dX9_buys_29 : decode cX9_buys 29 = .ok (.getfield 7, 3) := by decide +kernel
theorem dX9_buys_32 : decode cX9_buys 32 = .ok (.bipush 122, 2) := by decide +kernel
theorem dX9_buys_34 : decode cX9_buys 34 = .ok (.bipush 8, 2) := by decide +kernel
theorem dX9_buys_36 : decode cX9_buys 36 = .ok (.iload_n 1, 1) := by decide +kernel
theorem dX9_buys_37 : decode cX9_buys 37 = .ok (.imul, 1) := by decide +kernel
theorem dX9_buys_38 : decode cX9_buys 38 = .ok (.iadd, 1) := by decide +kernel
theorem dX9_buys_39 : decode cX9_buys 39 = .ok (.iload_n 2, 1) := by decide +kernel
theorem dX9_buys_40 : decode cX9_buys 40 = .ok (.iadd, 1) := by decide +kernel
theorem dX9_buys_41 : decode cX9_buys 41 = .ok (.aload_n 0, 1) := by decide +kernel
theorem dX9_buys_42 : decode cX9_buys 42 = .ok (.getfield 7, 3) := by decide +kernel
theorem dX9_buys_45 : decode cX9_buys 45 = .ok (.iconst 3, 1) := by decide +kernel
theorem dX9_buys_46 : decode cX9_buys 46 = .ok (.iaload, 1) := by decide +kernel
theorem dX9_buys_47 : decode cX9_buys 47 = .ok (.iload 4, 2) := by decide +kernel
theorem dX9_buys_49 : decode cX9_buys 49 = .ok (.iadd, 1) := by decide +kernel
theorem dX9_buys_50 : decode cX9_buys 50 = .ok (.iastore, 1) := by decide +kernel
theorem dX9_buys_51 : decode cX9_buys 51 = .ok (.aload_n 0, 1) := by decide +kernel
theorem dX9_buys_52 : decode cX9_buys 52 = .ok (.getfield 7, 3) := by decide +kernel
theorem dX9_buys_55 : decode cX9_buys 55 = .ok (.bipush 122, 2) := by decide +kernel
theorem dX9_buys_57 : decode cX9_buys 57 = .ok (.bipush 8, 2) := by decide +kernel
theorem dX9_buys_59 : decode cX9_buys 59 = .ok (.iload_n 2, 1) := by decide +kernel
theorem dX9_buys_60 : decode cX9_buys 60 = .ok (.imul, 1) := by decide +kernel
theorem dX9_buys_61 : decode cX9_buys 61 = .ok (.iadd, 1) := by decide +kernel
theorem dX9_buys_62 : decode cX9_buys 62 = .ok (.iload_n 1, 1) := by decide +kernel
theorem dX9_buys_63 : decode cX9_buys 63 = .ok (.iadd, 1) := by decide +kernel
theorem dX9_buys_64 : decode cX9_buys 64 = .ok (.aload_n 0, 1) := by decide +kernel
theorem dX9_buys_65 : decode cX9_buys 65 = .ok (.getfield 7, 3) := by decide +kernel
theorem dX9_buys_68 : decode cX9_buys 68 = .ok (.iconst 3, 1) := by decide +kernel
theorem dX9_buys_69 : decode cX9_buys 69 = .ok (.iaload, 1) := by decide +kernel
theorem dX9_buys_70 : decode cX9_buys 70 = .ok (.iload 4, 2) := by decide +kernel
theorem dX9_buys_72 : decode cX9_buys 72 = .ok (.iadd, 1) := by decide +kernel
theorem dX9_buys_73 : decode cX9_buys 73 = .ok (.iastore, 1) := by decide +kernel
theorem dX9_buys_74 : decode cX9_buys 74 = .ok (.aload_n 0, 1) := by decide +kernel
theorem dX9_buys_75 : decode cX9_buys 75 = .ok (.getfield 7, 3) := by decide +kernel
theorem dX9_buys_78 : decode cX9_buys 78 = .ok (.iconst 3, 1) := by decide +kernel
theorem dX9_buys_79 : decode cX9_buys 79 = .ok (.iaload, 1) := by decide +kernel
theorem dX9_buys_80 : decode cX9_buys 80 = .ok (.iload 4, 2) := by decide +kernel
theorem dX9_buys_82 : decode cX9_buys 82 = .ok (.iadd, 1) := by decide +kernel
theorem dX9_buys_83 : decode cX9_buys 83 = .ok (.ireturn, 1) := by decide +kernel
theorem dX9_waits_0 : decode cX9_waits 0 = .ok (.aload_n 0, 1) := by decide +kernel
theorem dX9_waits_1 : decode cX9_waits 1 = .ok (.getfield 7, 3) := by decide +kernel
theorem dX9_waits_4 : decode cX9_waits 4 = .ok (.iconst 4, 1) := by decide +kernel
theorem dX9_waits_5 : decode cX9_waits 5 = .ok (.iaload, 1) := by decide +kernel
theorem dX9_waits_6 : decode cX9_waits 6 = .ok (.ifCond .le 7, 3) := by decide +kernel
theorem dX9_waits_9 : decode cX9_waits 9 = .ok (.iconst 1, 1) := by decide +kernel
theorem dX9_waits_10 : decode cX9_waits 10 = .ok (.goto 4, 3) := by decide +kernel
theorem dX9_waits_13 : decode cX9_waits 13 = .ok (.iconst 0, 1) := by decide +kernel
theorem dX9_waits_14 : decode cX9_waits 14 = .ok (.ireturn, 1) := by decide +kernel
theorem dX9_canNominate_0 : decode cX9_canNominate 0 = .ok (.aload_n 0, 1) := by decide +kernel
theorem dX9_canNominate_1 : decode cX9_canNominate 1 = .ok (.invokevirtual 121, 3) := by decide +kernel
theorem dX9_canNominate_4 : decode cX9_canNominate 4 = .ok (.ifCond .ne 27, 3) := by decide +kernel
theorem dX9_canNominate_7 : decode cX9_canNominate 7 = .ok (.aload_n 0, 1) := by decide +kernel
theorem dX9_canNominate_8 : decode cX9_canNominate 8 = .ok (.getfield 7, 3) := by decide +kernel
theorem dX9_canNominate_11 : decode cX9_canNominate 11 = .ok (.iconst 2, 1) := by decide +kernel
theorem dX9_canNominate_12 : decode cX9_canNominate 12 = .ok (.iaload, 1) := by decide +kernel
theorem dX9_canNominate_13 : decode cX9_canNominate 13 = .ok (.ifCond .le 18, 3) := by decide +kernel
theorem dX9_canNominate_16 : decode cX9_canNominate 16 = .ok (.aload_n 0, 1) := by decide +kernel
theorem dX9_canNominate_17 : decode cX9_canNominate 17 = .ok (.getfield 7, 3) := by decide +kernel
theorem dX9_canNominate_20 : decode cX9_canNominate 20 = .ok (.iconst 2, 1) := by decide +kernel
theorem dX9_canNominate_21 : decode cX9_canNominate 21 = .ok (.iaload, 1) := by decide +kernel
theorem dX9_canNominate_22 : decode cX9_canNominate 22 = .ok (.bipush 8, 2) := by decide +kernel
theorem dX9_canNominate_24 : decode cX9_canNominate 24 = .ok (.if_icmp .ge 7, 3) := by decide +kernel
theorem dX9_canNominate_27 : decode cX9_canNominate 27 = .ok (.iconst 1, 1) := by decide +kernel
theorem dX9_canNominate_28 : decode cX9_canNominate 28 = .ok (.goto 4, 3) := by decide +kernel
theorem dX9_canNominate_31 : decode cX9_canNominate 31 = .ok (.iconst 0, 1) := by decide +kernel
theorem dX9_canNominate_32 : decode cX9_canNominate 32 = .ok (.ireturn, 1) := by decide +kernel
theorem dX9_nominates_0 : decode cX9_nominates 0 = .ok (.aload_n 0, 1) := by decide +kernel
theorem dX9_nominates_1 : decode cX9_nominates 1 = .ok (.getfield 7, 3) := by decide +kernel
theorem dX9_nominates_4 : decode cX9_nominates 4 = .ok (.iconst 4, 1) := by decide +kernel
theorem dX9_nominates_5 : decode cX9_nominates 5 = .ok (.iload_n 1, 1) := by decide +kernel
theorem dX9_nominates_6 : decode cX9_nominates 6 = .ok (.iastore, 1) := by decide +kernel
theorem dX9_nominates_7 : decode cX9_nominates 7 = .ok (.aload_n 0, 1) := by decide +kernel
theorem dX9_nominates_8 : decode cX9_nominates 8 = .ok (.getfield 7, 3) := by decide +kernel
theorem dX9_nominates_11 : decode cX9_nominates 11 = .ok (.iconst 5, 1) := by decide +kernel
theorem dX9_nominates_12 : decode cX9_nominates 12 = .ok (.iload_n 2, 1) := by decide +kernel
theorem dX9_nominates_13 : decode cX9_nominates 13 = .ok (.iastore, 1) := by decide +kernel
theorem dX9_nominates_14 : decode cX9_nominates 14 = .ok (.aload_n 0, 1) := by decide +kernel
theorem dX9_nominates_15 : decode cX9_nominates 15 = .ok (.getfield 7, 3) := by decide +kernel
theorem dX9_nominates_18 : decode cX9_nominates 18 = .ok (.bipush 6, 2) := by decide +kernel
theorem dX9_nominates_20 : decode cX9_nominates 20 = .ok (.iconst 0, 1) := by decide +kernel
theorem dX9_nominates_21 : decode cX9_nominates 21 = .ok (.iastore, 1) := by decide +kernel
theorem dX9_nominates_22 : decode cX9_nominates 22 = .ok (.aload_n 0, 1) := by decide +kernel
theorem dX9_nominates_23 : decode cX9_nominates 23 = .ok (.getfield 7, 3) := by decide +kernel
theorem dX9_nominates_26 : decode cX9_nominates 26 = .ok (.bipush 7, 2) := by decide +kernel
theorem dX9_nominates_28 : decode cX9_nominates 28 = .ok (.iconst 0, 1) := by decide +kernel
theorem dX9_nominates_29 : decode cX9_nominates 29 = .ok (.iastore, 1) := by decide +kernel
theorem dX9_nominates_30 : decode cX9_nominates 30 = .ok (.aload_n 0, 1) := by decide +kernel
theorem dX9_nominates_31 : decode cX9_nominates 31 = .ok (.getfield 7, 3) := by decide +kernel
theorem dX9_nominates_34 : decode cX9_nominates 34 = .ok (.iconst 2, 1) := by decide +kernel
theorem dX9_nominates_35 : decode cX9_nominates 35 = .ok (.iaload, 1) := by decide +kernel
theorem dX9_nominates_36 : decode cX9_nominates 36 = .ok (.ireturn, 1) := by decide +kernel
theorem dX9_canVote_0 : decode cX9_canVote 0 = .ok (.aload_n 0, 1) := by decide +kernel
theorem dX9_canVote_1 : decode cX9_canVote 1 = .ok (.invokevirtual 121, 3) := by decide +kernel
theorem dX9_canVote_4 : decode cX9_canVote 4 = .ok (.ifCond .eq 21, 3) := by decide +kernel
theorem dX9_canVote_7 : decode cX9_canVote 7 = .ok (.aload_n 0, 1) := by decide +kernel
theorem dX9_canVote_8 : decode cX9_canVote 8 = .ok (.getfield 7, 3) := by decide +kernel
theorem dX9_canVote_11 : decode cX9_canVote 11 = .ok (.bipush 6, 2) := by decide +kernel
theorem dX9_canVote_13 : decode cX9_canVote 13 = .ok (.iaload, 1) := by decide +kernel
theorem dX9_canVote_14 : decode cX9_canVote 14 = .ok (.iload_n 1, 1) := by decide +kernel
theorem dX9_canVote_15 : decode cX9_canVote 15 = .ok (.ishr, 1) := by decide +kernel
theorem dX9_canVote_16 : decode cX9_canVote 16 = .ok (.iconst 1, 1) := by decide +kernel
theorem dX9_canVote_17 : decode cX9_canVote 17 = .ok (.iand, 1) := by decide +kernel
theorem dX9_canVote_18 : decode cX9_canVote 18 = .ok (.ifCond .ne 7, 3) := by decide +kernel
theorem dX9_canVote_21 : decode cX9_canVote 21 = .ok (.iconst 1, 1) := by decide +kernel
theorem dX9_canVote_22 : decode cX9_canVote 22 = .ok (.goto 4, 3) := by decide +kernel
theorem dX9_canVote_25 : decode cX9_canVote 25 = .ok (.iconst 0, 1) := by decide +kernel
theorem dX9_canVote_26 : decode cX9_canVote 26 = .ok (.ireturn, 1) := by decide +kernel
theorem dX9_votes_0 : decode cX9_votes 0 = .ok (.aload_n 0, 1) := by decide +kernel
theorem dX9_votes_1 : decode cX9_votes 1 = .ok (.getfield 7, 3) := by decide +kernel
theorem dX9_votes_4 : decode cX9_votes 4 = .ok (.bipush 6, 2) := by decide +kernel
theorem dX9_votes_6 : decode cX9_votes 6 = .ok (.dup2, 1) := by decide +kernel
theorem dX9_votes_7 : decode cX9_votes 7 = .ok (.iaload, 1) := by decide +kernel
theorem dX9_votes_8 : decode cX9_votes 8 = .ok (.iconst 1, 1) := by decide +kernel
theorem dX9_votes_9 : decode cX9_votes 9 = .ok (.iload_n 1, 1) := by decide +kernel
theorem dX9_votes_10 : decode cX9_votes 10 = .ok (.ishl, 1) := by decide +kernel
theorem dX9_votes_11 : decode cX9_votes 11 = .ok (.ior, 1) := by decide +kernel
theorem dX9_votes_12 : decode cX9_votes 12 = .ok (.iastore, 1) := by decide +kernel
theorem dX9_votes_13 : decode cX9_votes 13 = .ok (.aload_n 0, 1) := by decide +kernel
theorem dX9_votes_14 : decode cX9_votes 14 = .ok (.getfield 7, 3) := by decide +kernel
theorem dX9_votes_17 : decode cX9_votes 17 = .ok (.bipush 7, 2) := by decide +kernel
theorem dX9_votes_19 : decode cX9_votes 19 = .ok (.dup2, 1) := by decide +kernel
theorem dX9_votes_20 : decode cX9_votes 20 = .ok (.iaload, 1) := by decide +kernel
theorem dX9_votes_21 : decode cX9_votes 21 = .ok (.iload_n 2, 1) := by decide +kernel
theorem dX9_votes_22 : decode cX9_votes 22 = .ok (.ifCond .eq 9, 3) := by decide +kernel
theorem dX9_votes_25 : decode cX9_votes 25 = .ok (.iconst 1, 1) := by decide +kernel
theorem dX9_votes_26 : decode cX9_votes 26 = .ok (.iload_n 1, 1) := by decide +kernel
theorem dX9_votes_27 : decode cX9_votes 27 = .ok (.ishl, 1) := by decide +kernel
theorem dX9_votes_28 : decode cX9_votes 28 = .ok (.goto 4, 3) := by decide +kernel
theorem dX9_votes_31 : decode cX9_votes 31 = .ok (.iconst 0, 1) := by decide +kernel
theorem dX9_votes_32 : decode cX9_votes 32 = .ok (.ior, 1) := by decide +kernel
theorem dX9_votes_33 : decode cX9_votes 33 = .ok (.iastore, 1) := by decide +kernel
theorem dX9_votes_34 : decode cX9_votes 34 = .ok (.aload_n 0, 1) := by decide +kernel
theorem dX9_votes_35 : decode cX9_votes 35 = .ok (.getfield 7, 3) := by decide +kernel
theorem dX9_votes_38 : decode cX9_votes 38 = .ok (.bipush 6, 2) := by decide +kernel
theorem dX9_votes_40 : decode cX9_votes 40 = .ok (.iaload, 1) := by decide +kernel
theorem dX9_votes_41 : decode cX9_votes 41 = .ok (.iconst 1, 1) := by decide +kernel
theorem dX9_votes_42 : decode cX9_votes 42 = .ok (.aload_n 0, 1) := by decide +kernel
theorem dX9_votes_43 : decode cX9_votes 43 = .ok (.getfield 7, 3) := by decide +kernel
theorem dX9_votes_46 : decode cX9_votes 46 = .ok (.iconst 2, 1) := by decide +kernel
theorem dX9_votes_47 : decode cX9_votes 47 = .ok (.iaload, 1) := by decide +kernel
theorem dX9_votes_48 : decode cX9_votes 48 = .ok (.ishl, 1) := by decide +kernel
theorem dX9_votes_49 : decode cX9_votes 49 = .ok (.iconst 1, 1) := by decide +kernel
theorem dX9_votes_50 : decode cX9_votes 50 = .ok (.isub, 1) := by decide +kernel
theorem dX9_votes_51 : decode cX9_votes 51 = .ok (.if_icmp .ne 14, 3) := by decide +kernel
theorem dX9_votes_54 : decode cX9_votes 54 = .ok (.aload_n 0, 1) := by decide +kernel
theorem dX9_votes_55 : decode cX9_votes 55 = .ok (.invokevirtual 124, 3) := by decide +kernel
theorem dX9_votes_58 : decode cX9_votes 58 = .ok (.ifCond .eq 7, 3) := by decide +kernel
theorem dX9_votes_61 : decode cX9_votes 61 = .ok (.iconst 1, 1) := by decide +kernel
theorem dX9_votes_62 : decode cX9_votes 62 = .ok (.goto 4, 3) := by decide +kernel
theorem dX9_votes_65 : decode cX9_votes 65 = .ok (.iconst 0, 1) := by decide +kernel
theorem dX9_votes_66 : decode cX9_votes 66 = .ok (.ireturn, 1) := by decide +kernel
theorem dX9_decides_0 : decode cX9_decides 0 = .ok (.aload_n 0, 1) := by decide +kernel
theorem dX9_decides_1 : decode cX9_decides 1 = .ok (.invokevirtual 127, 3) := by decide +kernel
theorem dX9_decides_4 : decode cX9_decides 4 = .ok (.istore_n 1, 1) := by decide +kernel
theorem dX9_decides_5 : decode cX9_decides 5 = .ok (.iconst 2, 1) := by decide +kernel
theorem dX9_decides_6 : decode cX9_decides 6 = .ok (.aload_n 0, 1) := by decide +kernel
theorem dX9_decides_7 : decode cX9_decides 7 = .ok (.getfield 7, 3) := by decide +kernel
theorem dX9_decides_10 : decode cX9_decides 10 = .ok (.bipush 7, 2) := by decide +kernel
theorem dX9_decides_12 : decode cX9_decides 12 = .ok (.iaload, 1) := by decide +kernel
theorem dX9_decides_13 : decode cX9_decides 13 = .ok (.invokestatic 115, 3) := by decide +kernel
theorem dX9_decides_16 : decode cX9_decides 16 = .ok (.imul, 1) := by decide +kernel
theorem dX9_decides_17 : decode cX9_decides 17 = .ok (.aload_n 0, 1) := by decide +kernel
theorem dX9_decides_18 : decode cX9_decides 18 = .ok (.getfield 7, 3) := by decide +kernel
theorem dX9_decides_21 : decode cX9_decides 21 = .ok (.bipush 6, 2) := by decide +kernel
theorem dX9_decides_23 : decode cX9_decides 23 = .ok (.iaload, 1) := by decide +kernel
theorem dX9_decides_24 : decode cX9_decides 24 = .ok (.invokestatic 115, 3) := by decide +kernel
theorem dX9_decides_27 : decode cX9_decides 27 = .ok (.if_icmp .le 23, 3) := by decide +kernel
theorem dX9_decides_30 : decode cX9_decides 30 = .ok (.aload_n 0, 1) := by decide +kernel
theorem dX9_decides_31 : decode cX9_decides 31 = .ok (.getfield 7, 3) := by decide +kernel
theorem dX9_decides_34 : decode cX9_decides 34 = .ok (.iconst 2, 1) := by decide +kernel
theorem dX9_decides_35 : decode cX9_decides 35 = .ok (.iaload, 1) := by decide +kernel
theorem dX9_decides_36 : decode cX9_decides 36 = .ok (.bipush 8, 2) := by decide +kernel
theorem dX9_decides_38 : decode cX9_decides 38 = .ok (.if_icmp .ge 12, 3) := by decide +kernel
theorem dX9_decides_41 : decode cX9_decides 41 = .ok (.iload_n 1, 1) := by decide +kernel
theorem dX9_decides_42 : decode cX9_decides 42 = .ok (.iconst (-1), 1) := by decide +kernel
theorem dX9_decides_43 : decode cX9_decides 43 = .ok (.if_icmp .eq 7, 3) := by decide +kernel
theorem dX9_decides_46 : decode cX9_decides 46 = .ok (.iconst 1, 1) := by decide +kernel
theorem dX9_decides_47 : decode cX9_decides 47 = .ok (.goto 4, 3) := by decide +kernel
theorem dX9_decides_50 : decode cX9_decides 50 = .ok (.iconst 0, 1) := by decide +kernel
theorem dX9_decides_51 : decode cX9_decides 51 = .ok (.istore_n 2, 1) := by decide +kernel
theorem dX9_decides_52 : decode cX9_decides 52 = .ok (.iload_n 2, 1) := by decide +kernel
theorem dX9_decides_53 : decode cX9_decides 53 = .ok (.ifCond .eq 21, 3) := by decide +kernel
theorem dX9_decides_56 : decode cX9_decides 56 = .ok (.aload_n 0, 1) := by decide +kernel
theorem dX9_decides_57 : decode cX9_decides 57 = .ok (.iload_n 1, 1) := by decide +kernel
theorem dX9_decides_58 : decode cX9_decides 58 = .ok (.aload_n 0, 1) := by decide +kernel
theorem dX9_decides_59 : decode cX9_decides 59 = .ok (.getfield 7, 3) := by decide +kernel
theorem dX9_decides_62 : decode cX9_decides 62 = .ok (.iconst 4, 1) := by decide +kernel
theorem dX9_decides_63 : decode cX9_decides 63 = .ok (.iaload, 1) := by decide +kernel
theorem dX9_decides_64 : decode cX9_decides 64 = .ok (.aload_n 0, 1) := by decide +kernel
theorem dX9_decides_65 : decode cX9_decides 65 = .ok (.getfield 7, 3) := by decide +kernel
theorem dX9_decides_68 : decode cX9_decides 68 = .ok (.iconst 5, 1) := by decide +kernel
theorem dX9_decides_69 : decode cX9_decides 69 = .ok (.iaload, 1) := by decide +kernel
theorem dX9_decides_70 : decode cX9_decides 70 = .ok (.invokevirtual 131, 3) := by decide +kernel
theorem dX9_decides_73 : decode cX9_decides 73 = .ok (.pop, 1) := by decide +kernel
theorem dX9_decides_74 : decode cX9_decides 74 = .ok (.aload_n 0, 1) := by decide +kernel
theorem dX9_decides_75 : decode cX9_decides 75 = .ok (.getfield 7, 3) := by decide +kernel
theorem dX9_decides_78 : decode cX9_decides 78 = .ok (.iconst 4, 1) := by decide +kernel
theorem dX9_decides_79 : decode cX9_decides 79 = .ok (.iconst 0, 1) := by decide +kernel
theorem dX9_decides_80 : decode cX9_decides 80 = .ok (.iastore, 1) := by decide +kernel
theorem dX9_decides_81 : decode cX9_decides 81 = .ok (.aload_n 0, 1) := by decide +kernel
theorem dX9_decides_82 : decode cX9_decides 82 = .ok (.getfield 7, 3) := by decide +kernel
theorem dX9_decides_85 : decode cX9_decides 85 = .ok (.iconst 5, 1) := by decide +kernel
theorem dX9_decides_86 : decode cX9_decides 86 = .ok (.iconst 0, 1) := by decide +kernel
theorem dX9_decides_87 : decode cX9_decides 87 = .ok (.iastore, 1) := by decide +kernel
theorem dX9_decides_88 : decode cX9_decides 88 = .ok (.aload_n 0, 1) := by decide +kernel
theorem dX9_decides_89 : decode cX9_decides 89 = .ok (.getfield 7, 3) := by decide +kernel
theorem dX9_decides_92 : decode cX9_decides 92 = .ok (.bipush 6, 2) := by decide +kernel
theorem dX9_decides_94 : decode cX9_decides 94 = .ok (.iconst 0, 1) := by decide +kernel
theorem dX9_decides_95 : decode cX9_decides 95 = .ok (.iastore, 1) := by decide +kernel
theorem dX9_decides_96 : decode cX9_decides 96 = .ok (.aload_n 0, 1) := by decide +kernel
theorem dX9_decides_97 : decode cX9_decides 97 = .ok (.getfield 7, 3) := by decide +kernel
theorem dX9_decides_100 : decode cX9_decides 100 = .ok (.bipush 7, 2) := by decide +kernel
theorem dX9_decides_102 : decode cX9_decides 102 = .ok (.iconst 0, 1) := by decide +kernel
theorem dX9_decides_103 : decode cX9_decides 103 = .ok (.iastore, 1) := by decide +kernel
theorem dX9_decides_104 : decode cX9_decides 104 = .ok (.iload_n 2, 1) := by decide +kernel
theorem dX9_decides_105 : decode cX9_decides 105 = .ok (.ireturn, 1) := by decide +kernel
theorem dX9_feeds_0 : decode cX9_feeds 0 = .ok (.iload_n 2, 1) := by decide +kernel
theorem dX9_feeds_1 : decode cX9_feeds 1 = .ok (.bipush 99, 2) := by decide +kernel
theorem dX9_feeds_3 : decode cX9_feeds 3 = .ok (.aload_n 0, 1) := by decide +kernel
theorem dX9_feeds_4 : decode cX9_feeds 4 = .ok (.iload_n 1, 1) := by decide +kernel
theorem dX9_feeds_5 : decode cX9_feeds 5 = .ok (.iconst 2, 1) := by decide +kernel
theorem dX9_feeds_6 : decode cX9_feeds 6 = .ok (.invokevirtual 64, 3) := by decide +kernel
theorem dX9_feeds_9 : decode cX9_feeds 9 = .ok (.isub, 1) := by decide +kernel
theorem dX9_feeds_10 : decode cX9_feeds 10 = .ok (.invokestatic 135, 3) := by decide +kernel
theorem dX9_feeds_13 : decode cX9_feeds 13 = .ok (.istore_n 3, 1) := by decide +kernel
theorem dX9_feeds_14 : decode cX9_feeds 14 = .ok (.aload_n 0, 1) := by decide +kernel
theorem dX9_feeds_15 : decode cX9_feeds 15 = .ok (.iload_n 1, 1) := by decide +kernel
theorem dX9_feeds_16 : decode cX9_feeds 16 = .ok (.iconst 2, 1) := by decide +kernel
theorem dX9_feeds_17 : decode cX9_feeds 17 = .ok (.aload_n 0, 1) := by decide +kernel
theorem dX9_feeds_18 : decode cX9_feeds 18 = .ok (.iload_n 1, 1) := by decide +kernel
theorem dX9_feeds_19 : decode cX9_feeds 19 = .ok (.iconst 2, 1) := by decide +kernel
theorem dX9_feeds_20 : decode cX9_feeds 20 = .ok (.invokevirtual 64, 3) := by decide +kernel
theorem dX9_feeds_23 : decode cX9_feeds 23 = .ok (.iload_n 3, 1) := by decide +kernel
theorem dX9_feeds_24 : decode cX9_feeds 24 = .ok (.iadd, 1) := by decide +kernel
theorem dX9_feeds_25 : decode cX9_feeds 25 = .ok (.invokevirtual 118, 3) := by decide +kernel
theorem dX9_feeds_28 : decode cX9_feeds 28 = .ok (.aload_n 0, 1) := by decide +kernel
theorem dX9_feeds_29 : decode cX9_feeds 29 = .ok (.getfield 7, 3) := by decide +kernel
theorem dX9_feeds_32 : decode cX9_feeds 32 = .ok (.bipush 8, 2) := by decide +kernel
theorem dX9_feeds_34 : decode cX9_feeds 34 = .ok (.dup2, 1) := by decide +kernel
theorem dX9_feeds_35 : decode cX9_feeds 35 = .ok (.iaload, 1) := by decide +kernel
theorem dX9_feeds_36 : decode cX9_feeds 36 = .ok (.iload_n 3, 1) := by decide +kernel
theorem dX9_feeds_37 : decode cX9_feeds 37 = .ok (.iadd, 1) := by decide +kernel
theorem dX9_feeds_38 : decode cX9_feeds 38 = .ok (.iastore, 1) := by decide +kernel
theorem dX9_feeds_39 : decode cX9_feeds 39 = .ok (.return_, 1) := by decide +kernel
theorem dX9_eats_0 : decode cX9_eats 0 = .ok (.aload_n 0, 1) := by decide +kernel
theorem dX9_eats_1 : decode cX9_eats 1 = .ok (.iload_n 1, 1) := by decide +kernel
theorem dX9_eats_2 : decode cX9_eats 2 = .ok (.iconst 2, 1) := by decide +kernel
theorem dX9_eats_3 : decode cX9_eats 3 = .ok (.invokevirtual 64, 3) := by decide +kernel
theorem dX9_eats_6 : decode cX9_eats 6 = .ok (.ifCond .le 28, 3) := by decide +kernel
theorem dX9_eats_9 : decode cX9_eats 9 = .ok (.aload_n 0, 1) := by decide +kernel
theorem dX9_eats_10 : decode cX9_eats 10 = .ok (.iload_n 1, 1) := by decide +kernel
theorem dX9_eats_11 : decode cX9_eats 11 = .ok (.iconst 2, 1) := by decide +kernel
theorem dX9_eats_12 : decode cX9_eats 12 = .ok (.aload_n 0, 1) := by decide +kernel
theorem dX9_eats_13 : decode cX9_eats 13 = .ok (.iload_n 1, 1) := by decide +kernel
theorem dX9_eats_14 : decode cX9_eats 14 = .ok (.iconst 2, 1) := by decide +kernel
theorem dX9_eats_15 : decode cX9_eats 15 = .ok (.invokevirtual 64, 3) := by decide +kernel
theorem dX9_eats_18 : decode cX9_eats 18 = .ok (.iconst 1, 1) := by decide +kernel
theorem dX9_eats_19 : decode cX9_eats 19 = .ok (.isub, 1) := by decide +kernel
theorem dX9_eats_20 : decode cX9_eats 20 = .ok (.invokevirtual 118, 3) := by decide +kernel
theorem dX9_eats_23 : decode cX9_eats 23 = .ok (.aload_n 0, 1) := by decide +kernel
theorem dX9_eats_24 : decode cX9_eats 24 = .ok (.getfield 7, 3) := by decide +kernel
theorem dX9_eats_27 : decode cX9_eats 27 = .ok (.bipush 9, 2) := by decide +kernel
theorem dX9_eats_29 : decode cX9_eats 29 = .ok (.dup2, 1) := by decide +kernel
theorem dX9_eats_30 : decode cX9_eats 30 = .ok (.iaload, 1) := by decide +kernel
theorem dX9_eats_31 : decode cX9_eats 31 = .ok (.iconst 1, 1) := by decide +kernel
theorem dX9_eats_32 : decode cX9_eats 32 = .ok (.iadd, 1) := by decide +kernel
theorem dX9_eats_33 : decode cX9_eats 33 = .ok (.iastore, 1) := by decide +kernel
theorem dX9_eats_34 : decode cX9_eats 34 = .ok (.return_, 1) := by decide +kernel
theorem dX9_sings_0 : decode cX9_sings 0 = .ok (.aload_n 0, 1) := by decide +kernel
theorem dX9_sings_1 : decode cX9_sings 1 = .ok (.invokevirtual 138, 3) := by decide +kernel
theorem dX9_sings_4 : decode cX9_sings 4 = .ok (.istore_n 1, 1) := by decide +kernel
theorem dX9_sings_5 : decode cX9_sings 5 = .ok (.iconst 0, 1) := by decide +kernel
theorem dX9_sings_6 : decode cX9_sings 6 = .ok (.istore_n 2, 1) := by decide +kernel
theorem dX9_sings_7 : decode cX9_sings 7 = .ok (.iload_n 2, 1) := by decide +kernel
theorem dX9_sings_8 : decode cX9_sings 8 = .ok (.aload_n 0, 1) := by decide +kernel
theorem dX9_sings_9 : decode cX9_sings 9 = .ok (.getfield 7, 3) := by decide +kernel
theorem dX9_sings_12 : decode cX9_sings 12 = .ok (.iconst 2, 1) := by decide +kernel
theorem dX9_sings_13 : decode cX9_sings 13 = .ok (.iaload, 1) := by decide +kernel
theorem dX9_sings_14 : decode cX9_sings 14 = .ok (.if_icmp .ge 27, 3) := by decide +kernel
theorem dX9_sings_17 : decode cX9_sings 17 = .ok (.iload_n 1, 1) := by decide +kernel
theorem dX9_sings_18 : decode cX9_sings 18 = .ok (.iload_n 2, 1) := by decide +kernel
theorem dX9_sings_19 : decode cX9_sings 19 = .ok (.ishr, 1) := by decide +kernel
theorem dX9_sings_20 : decode cX9_sings 20 = .ok (.iconst 1, 1) := by decide +kernel
theorem dX9_sings_21 : decode cX9_sings 21 = .ok (.iand, 1) := by decide +kernel
theorem dX9_sings_22 : decode cX9_sings 22 = .ok (.iconst 1, 1) := by decide +kernel
theorem dX9_sings_23 : decode cX9_sings 23 = .ok (.if_icmp .ne 12, 3) := by decide +kernel
theorem dX9_sings_26 : decode cX9_sings 26 = .ok (.aload_n 0, 1) := by decide +kernel
theorem dX9_sings_27 : decode cX9_sings 27 = .ok (.iload_n 2, 1) := by decide +kernel
theorem dX9_sings_28 : decode cX9_sings 28 = .ok (.iload_n 1, 1) := by decide +kernel
theorem dX9_sings_29 : decode cX9_sings 29 = .ok (.invokestatic 115, 3) := by decide +kernel
theorem dX9_sings_32 : decode cX9_sings 32 = .ok (.invokevirtual 141, 3) := by decide +kernel
theorem dX9_sings_35 : decode cX9_sings 35 = .ok (.iinc 2 1, 3) := by decide +kernel
theorem dX9_sings_38 : decode cX9_sings 38 = .ok (.goto (-31), 3) := by decide +kernel
theorem dX9_sings_41 : decode cX9_sings 41 = .ok (.return_, 1) := by decide +kernel
theorem dX9_passes_0 : decode cX9_passes 0 = .ok (.iconst 0, 1) := by decide +kernel
theorem dX9_passes_1 : decode cX9_passes 1 = .ok (.istore_n 2, 1) := by decide +kernel
theorem dX9_passes_2 : decode cX9_passes 2 = .ok (.iload_n 2, 1) := by decide +kernel
theorem dX9_passes_3 : decode cX9_passes 3 = .ok (.iload_n 1, 1) := by decide +kernel
theorem dX9_passes_4 : decode cX9_passes 4 = .ok (.if_icmp .ge 91, 3) := by decide +kernel
theorem dX9_passes_7 : decode cX9_passes 7 = .ok (.aload_n 0, 1) := by decide +kernel
theorem dX9_passes_8 : decode cX9_passes 8 = .ok (.getfield 7, 3) := by decide +kernel
theorem dX9_passes_11 : decode cX9_passes 11 = .ok (.iconst 3, 1) := by decide +kernel
theorem dX9_passes_12 : decode cX9_passes 12 = .ok (.dup2, 1) := by decide +kernel
theorem dX9_passes_13 : decode cX9_passes 13 = .ok (.iaload, 1) := by decide +kernel
theorem dX9_passes_14 : decode cX9_passes 14 = .ok (.iconst 1, 1) := by decide +kernel
theorem dX9_passes_15 : decode cX9_passes 15 = .ok (.iadd, 1) := by decide +kernel
theorem dX9_passes_16 : decode cX9_passes 16 = .ok (.iastore, 1) := by decide +kernel
theorem dX9_passes_17 : decode cX9_passes 17 = .ok (.iconst 0, 1) := by decide +kernel
theorem dX9_passes_18 : decode cX9_passes 18 = .ok (.istore_n 3, 1) := by decide +kernel
theorem dX9_passes_19 : decode cX9_passes 19 = .ok (.iload_n 3, 1) := by decide +kernel
theorem dX9_passes_20 : decode cX9_passes 20 = .ok (.aload_n 0, 1) := by decide +kernel
theorem dX9_passes_21 : decode cX9_passes 21 = .ok (.getfield 7, 3) := by decide +kernel
theorem dX9_passes_24 : decode cX9_passes 24 = .ok (.iconst 2, 1) := by decide +kernel
theorem dX9_passes_25 : decode cX9_passes 25 = .ok (.iaload, 1) := by decide +kernel
theorem dX9_passes_26 : decode cX9_passes 26 = .ok (.if_icmp .ge 46, 3) := by decide +kernel
theorem dX9_passes_29 : decode cX9_passes 29 = .ok (.aload_n 0, 1) := by decide +kernel
theorem dX9_passes_30 : decode cX9_passes 30 = .ok (.iload_n 3, 1) := by decide +kernel
theorem dX9_passes_31 : decode cX9_passes 31 = .ok (.invokevirtual 72, 3) := by decide +kernel
theorem dX9_passes_34 : decode cX9_passes 34 = .ok (.ifCond .eq 27, 3) := by decide +kernel
theorem dX9_passes_37 : decode cX9_passes 37 = .ok (.aload_n 0, 1) := by decide +kernel
theorem dX9_passes_38 : decode cX9_passes 38 = .ok (.iload_n 3, 1) := by decide +kernel
theorem dX9_passes_39 : decode cX9_passes 39 = .ok (.aload_n 0, 1) := by decide +kernel
theorem dX9_passes_40 : decode cX9_passes 40 = .ok (.getfield 7, 3) := by decide +kernel
theorem dX9_passes_43 : decode cX9_passes 43 = .ok (.bipush 10, 2) := by decide +kernel
theorem dX9_passes_45 : decode cX9_passes 45 = .ok (.aload_n 0, 1) := by decide +kernel
theorem dX9_passes_46 : decode cX9_passes 46 = .ok (.iload_n 3, 1) := by decide +kernel
theorem dX9_passes_47 : decode cX9_passes 47 = .ok (.iconst 3, 1) := by decide +kernel
theorem dX9_passes_48 : decode cX9_passes 48 = .ok (.invokevirtual 64, 3) := by decide +kernel
theorem dX9_passes_51 : decode cX9_passes 51 = .ok (.iadd, 1) := by decide +kernel
theorem dX9_passes_52 : decode cX9_passes 52 = .ok (.iaload, 1) := by decide +kernel
theorem dX9_passes_53 : decode cX9_passes 53 = .ok (.iconst 3, 1) := by decide +kernel
theorem dX9_passes_54 : decode cX9_passes 54 = .ok (.idiv, 1) := by decide +kernel
theorem dX9_passes_55 : decode cX9_passes 55 = .ok (.invokevirtual 141, 3) := by decide +kernel
theorem dX9_passes_58 : decode cX9_passes 58 = .ok (.goto 8, 3) := by decide +kernel
theorem dX9_passes_61 : decode cX9_passes 61 = .ok (.aload_n 0, 1) := by decide +kernel
theorem dX9_passes_62 : decode cX9_passes 62 = .ok (.iload_n 3, 1) := by decide +kernel
theorem dX9_passes_63 : decode cX9_passes 63 = .ok (.invokevirtual 145, 3) := by decide +kernel
theorem dX9_passes_66 : decode cX9_passes 66 = .ok (.iinc 3 1, 3) := by decide +kernel
theorem dX9_passes_69 : decode cX9_passes 69 = .ok (.goto (-50), 3) := by decide +kernel
theorem dX9_passes_72 : decode cX9_passes 72 = .ok (.aload_n 0, 1) := by decide +kernel
theorem dX9_passes_73 : decode cX9_passes 73 = .ok (.getfield 7, 3) := by decide +kernel
theorem dX9_passes_76 : decode cX9_passes 76 = .ok (.iconst 3, 1) := by decide +kernel
theorem dX9_passes_77 : decode cX9_passes 77 = .ok (.iaload, 1) := by decide +kernel
theorem dX9_passes_78 : decode cX9_passes 78 = .ok (.bipush 8, 2) := by decide +kernel
theorem dX9_passes_80 : decode cX9_passes 80 = .ok (.irem, 1) := by decide +kernel
theorem dX9_passes_81 : decode cX9_passes 81 = .ok (.iconst 4, 1) := by decide +kernel
theorem dX9_passes_82 : decode cX9_passes 82 = .ok (.if_icmp .ne 7, 3) := by decide +kernel
theorem dX9_passes_85 : decode cX9_passes 85 = .ok (.aload_n 0, 1) := by decide +kernel
theorem dX9_passes_86 : decode cX9_passes 86 = .ok (.invokevirtual 149, 3) := by decide +kernel
theorem dX9_passes_89 : decode cX9_passes 89 = .ok (.iinc 2 1, 3) := by decide +kernel
theorem dX9_passes_92 : decode cX9_passes 92 = .ok (.goto (-90), 3) := by decide +kernel
theorem dX9_passes_95 : decode cX9_passes 95 = .ok (.aload_n 0, 1) := by decide +kernel
theorem dX9_passes_96 : decode cX9_passes 96 = .ok (.getfield 7, 3) := by decide +kernel
theorem dX9_passes_99 : decode cX9_passes 99 = .ok (.iconst 3, 1) := by decide +kernel
theorem dX9_passes_100 : decode cX9_passes 100 = .ok (.iaload, 1) := by decide +kernel
theorem dX9_passes_101 : decode cX9_passes 101 = .ok (.ireturn, 1) := by decide +kernel
theorem dX9_tell_0 : decode cX9_tell 0 = .ok (.iconst 0, 1) := by decide +kernel
theorem dX9_tell_1 : decode cX9_tell 1 = .ok (.istore_n 2, 1) := by decide +kernel
theorem dX9_tell_2 : decode cX9_tell 2 = .ok (.iload_n 2, 1) := by decide +kernel
theorem dX9_tell_3 : decode cX9_tell 3 = .ok (.aload_n 1, 1) := by decide +kernel
theorem dX9_tell_4 : decode cX9_tell 4 = .ok (.invokevirtual 152, 3) := by decide +kernel
theorem dX9_tell_7 : decode cX9_tell 7 = .ok (.if_icmp .ge 33, 3) := by decide +kernel
theorem dX9_tell_10 : decode cX9_tell 10 = .ok (.aload_n 0, 1) := by decide +kernel
theorem dX9_tell_11 : decode cX9_tell 11 = .ok (.getfield 28, 3) := by decide +kernel
theorem dX9_tell_14 : decode cX9_tell 14 = .ok (.aload_n 0, 1) := by decide +kernel
theorem dX9_tell_15 : decode cX9_tell 15 = .ok (.getfield 157, 3) := by decide +kernel
theorem dX9_tell_18 : decode cX9_tell 18 = .ok (.aload_n 1, 1) := by decide +kernel
theorem dX9_tell_19 : decode cX9_tell 19 = .ok (.iload_n 2, 1) := by decide +kernel
theorem dX9_tell_20 : decode cX9_tell 20 = .ok (.invokevirtual 160, 3) := by decide +kernel
theorem dX9_tell_23 : decode cX9_tell 23 = .ok (.iastore, 1) := by decide +kernel
theorem dX9_tell_24 : decode cX9_tell 24 = .ok (.aload_n 0, 1) := by decide +kernel
theorem dX9_tell_25 : decode cX9_tell 25 = .ok (.dup, 1) := by decide +kernel
theorem dX9_tell_26 : decode cX9_tell 26 = .ok (.getfield 157, 3) := by decide +kernel
theorem dX9_tell_29 : decode cX9_tell 29 = .ok (.iconst 1, 1) := by decide +kernel
theorem dX9_tell_30 : decode cX9_tell 30 = .ok (.iadd, 1) := by decide +kernel
theorem dX9_tell_31 : decode cX9_tell 31 = .ok (.putfield 157, 3) := by decide +kernel
theorem dX9_tell_34 : decode cX9_tell 34 = .ok (.iinc 2 1, 3) := by decide +kernel
theorem dX9_tell_37 : decode cX9_tell 37 = .ok (.goto (-35), 3) := by decide +kernel
theorem dX9_tell_40 : decode cX9_tell 40 = .ok (.return_, 1) := by decide +kernel
theorem dX9_sortOf_0 : decode cX9_sortOf 0 = .ok (.iload_n 0, 1) := by decide +kernel
theorem dX9_sortOf_1 : decode cX9_sortOf 1 = .ok (.bipush 59, 2) := by decide +kernel
theorem dX9_sortOf_3 : decode cX9_sortOf 3 = .ok (.if_icmp .ne 7, 3) := by decide +kernel
theorem dX9_sortOf_6 : decode cX9_sortOf 6 = .ok (.iconst 1, 1) := by decide +kernel
theorem dX9_sortOf_7 : decode cX9_sortOf 7 = .ok (.goto 57, 3) := by decide +kernel
theorem dX9_sortOf_10 : decode cX9_sortOf 10 = .ok (.iload_n 0, 1) := by decide +kernel
theorem dX9_sortOf_11 : decode cX9_sortOf 11 = .ok (.bipush 97, 2) := by decide +kernel
theorem dX9_sortOf_13 : decode cX9_sortOf 13 = .ok (.if_icmp .lt 13, 3) := by decide +kernel
theorem dX9_sortOf_16 : decode cX9_sortOf 16 = .ok (.iload_n 0, 1) := by decide +kernel
theorem dX9_sortOf_17 : decode cX9_sortOf 17 = .ok (.bipush 122, 2) := by decide +kernel
theorem dX9_sortOf_19 : decode cX9_sortOf 19 = .ok (.if_icmp .gt 7, 3) := by decide +kernel
theorem dX9_sortOf_22 : decode cX9_sortOf 22 = .ok (.iconst 2, 1) := by decide +kernel
theorem dX9_sortOf_23 : decode cX9_sortOf 23 = .ok (.goto 41, 3) := by decide +kernel
theorem dX9_sortOf_26 : decode cX9_sortOf 26 = .ok (.iload_n 0, 1) := by decide +kernel
theorem dX9_sortOf_27 : decode cX9_sortOf 27 = .ok (.bipush 48, 2) := by decide +kernel
theorem dX9_sortOf_29 : decode cX9_sortOf 29 = .ok (.if_icmp .lt 13, 3) := by decide +kernel
theorem dX9_sortOf_32 : decode cX9_sortOf 32 = .ok (.iload_n 0, 1) := by decide +kernel
theorem dX9_sortOf_33 : decode cX9_sortOf 33 = .ok (.bipush 57, 2) := by decide +kernel
theorem dX9_sortOf_35 : decode cX9_sortOf 35 = .ok (.if_icmp .gt 7, 3) := by decide +kernel
theorem dX9_sortOf_38 : decode cX9_sortOf 38 = .ok (.iconst 3, 1) := by decide +kernel
theorem dX9_sortOf_39 : decode cX9_sortOf 39 = .ok (.goto 25, 3) := by decide +kernel
theorem dX9_sortOf_42 : decode cX9_sortOf 42 = .ok (.iload_n 0, 1) := by decide +kernel
theorem dX9_sortOf_43 : decode cX9_sortOf 43 = .ok (.bipush 40, 2) := by decide +kernel
theorem dX9_sortOf_45 : decode cX9_sortOf 45 = .ok (.if_icmp .ne 7, 3) := by decide +kernel
theorem dX9_sortOf_48 : decode cX9_sortOf 48 = .ok (.iconst 4, 1) := by decide +kernel
theorem dX9_sortOf_49 : decode cX9_sortOf 49 = .ok (.goto 15, 3) := by decide +kernel
theorem dX9_sortOf_52 : decode cX9_sortOf 52 = .ok (.iload_n 0, 1) := by decide +kernel
theorem dX9_sortOf_53 : decode cX9_sortOf 53 = .ok (.bipush 41, 2) := by decide +kernel
theorem dX9_sortOf_55 : decode cX9_sortOf 55 = .ok (.if_icmp .ne 7, 3) := by decide +kernel
theorem dX9_sortOf_58 : decode cX9_sortOf 58 = .ok (.iconst 5, 1) := by decide +kernel
theorem dX9_sortOf_59 : decode cX9_sortOf 59 = .ok (.goto 5, 3) := by decide +kernel
theorem dX9_sortOf_62 : decode cX9_sortOf 62 = .ok (.bipush 6, 2) := by decide +kernel
theorem dX9_sortOf_64 : decode cX9_sortOf 64 = .ok (.ireturn, 1) := by decide +kernel
theorem dX9_next_0 : decode cX9_next 0 = .ok (.aload_n 0, 1) := by decide +kernel
theorem dX9_next_1 : decode cX9_next 1 = .ok (.aload_n 0, 1) := by decide +kernel
theorem dX9_next_2 : decode cX9_next 2 = .ok (.getfield 164, 3) := by decide +kernel
theorem dX9_next_5 : decode cX9_next 5 = .ok (.putfield 167, 3) := by decide +kernel
theorem dX9_next_8 : decode cX9_next 8 = .ok (.aload_n 0, 1) := by decide +kernel
theorem dX9_next_9 : decode cX9_next 9 = .ok (.getfield 167, 3) := by decide +kernel
theorem dX9_next_12 : decode cX9_next 12 = .ok (.aload_n 0, 1) := by decide +kernel
theorem dX9_next_13 : decode cX9_next 13 = .ok (.getfield 157, 3) := by decide +kernel
theorem dX9_next_16 : decode cX9_next 16 = .ok (.if_icmp .ge 44, 3) := by decide +kernel
theorem dX9_next_19 : decode cX9_next 19 = .ok (.aload_n 0, 1) := by decide +kernel
theorem dX9_next_20 : decode cX9_next 20 = .ok (.getfield 28, 3) := by decide +kernel
theorem dX9_next_23 : decode cX9_next 23 = .ok (.aload_n 0, 1) := by decide +kernel
theorem dX9_next_24 : decode cX9_next 24 = .ok (.getfield 167, 3) := by decide +kernel
theorem dX9_next_27 : decode cX9_next 27 = .ok (.iaload, 1) := by decide +kernel
theorem dX9_next_28 : decode cX9_next 28 = .ok (.bipush 32, 2) := by decide +kernel
theorem dX9_next_30 : decode cX9_next 30 = .ok (.if_icmp .eq 17, 3) := by decide +kernel
theorem dX9_next_33 : decode cX9_next 33 = .ok (.aload_n 0, 1) := by decide +kernel
theorem dX9_next_34 : decode cX9_next 34 = .ok (.getfield 28, 3) := by decide +kernel
theorem dX9_next_37 : decode cX9_next 37 = .ok (.aload_n 0, 1) := by decide +kernel
theorem dX9_next_38 : decode cX9_next 38 = .ok (.getfield 167, 3) := by decide +kernel
theorem dX9_next_41 : decode cX9_next 41 = .ok (.iaload, 1) := by decide +kernel
theorem dX9_next_42 : decode cX9_next 42 = .ok (.bipush 10, 2) := by decide +kernel
theorem dX9_next_44 : decode cX9_next 44 = .ok (.if_icmp .ne 16, 3) := by decide +kernel
theorem dX9_next_47 : decode cX9_next 47 = .ok (.aload_n 0, 1) := by decide +kernel
theorem dX9_next_48 : decode cX9_next 48 = .ok (.dup, 1) := by decide +kernel
theorem dX9_next_49 : decode cX9_next 49 = .ok (.getfield 167, 3) := by decide +kernel
theorem dX9_next_52 : decode cX9_next 52 = .ok (.iconst 1, 1) := by decide +kernel
theorem dX9_next_53 : decode cX9_next 53 = .ok (.iadd, 1) := by decide +kernel
theorem dX9_next_54 : decode cX9_next 54 = .ok (.putfield 167, 3) := by decide +kernel
theorem dX9_next_57 : decode cX9_next 57 = .ok (.goto (-49), 3) := by decide +kernel
theorem dX9_next_60 : decode cX9_next 60 = .ok (.aload_n 0, 1) := by decide +kernel
theorem dX9_next_61 : decode cX9_next 61 = .ok (.aload_n 0, 1) := by decide +kernel
theorem dX9_next_62 : decode cX9_next 62 = .ok (.getfield 167, 3) := by decide +kernel
theorem dX9_next_65 : decode cX9_next 65 = .ok (.putfield 164, 3) := by decide +kernel
theorem dX9_next_68 : decode cX9_next 68 = .ok (.aload_n 0, 1) := by decide +kernel
theorem dX9_next_69 : decode cX9_next 69 = .ok (.getfield 167, 3) := by decide +kernel
theorem dX9_next_72 : decode cX9_next 72 = .ok (.aload_n 0, 1) := by decide +kernel
theorem dX9_next_73 : decode cX9_next 73 = .ok (.getfield 157, 3) := by decide +kernel
theorem dX9_next_76 : decode cX9_next 76 = .ok (.if_icmp .ne 9, 3) := by decide +kernel
theorem dX9_next_79 : decode cX9_next 79 = .ok (.aload_n 0, 1) := by decide +kernel
theorem dX9_next_80 : decode cX9_next 80 = .ok (.iconst 0, 1) := by decide +kernel
theorem dX9_next_81 : decode cX9_next 81 = .ok (.putfield 170, 3) := by decide +kernel
theorem dX9_next_84 : decode cX9_next 84 = .ok (.return_, 1) := by decide +kernel
theorem dX9_next_85 : decode cX9_next 85 = .ok (.aload_n 0, 1) := by decide +kernel
theorem dX9_next_86 : decode cX9_next 86 = .ok (.aload_n 0, 1) := by decide +kernel
theorem dX9_next_87 : decode cX9_next 87 = .ok (.getfield 28, 3) := by decide +kernel
theorem dX9_next_90 : decode cX9_next 90 = .ok (.aload_n 0, 1) := by decide +kernel
theorem dX9_next_91 : decode cX9_next 91 = .ok (.getfield 167, 3) := by decide +kernel
theorem dX9_next_94 : decode cX9_next 94 = .ok (.iaload, 1) := by decide +kernel
theorem dX9_next_95 : decode cX9_next 95 = .ok (.invokestatic 173, 3) := by decide +kernel
theorem dX9_next_98 : decode cX9_next 98 = .ok (.putfield 170, 3) := by decide +kernel
theorem dX9_next_101 : decode cX9_next 101 = .ok (.aload_n 0, 1) := by decide +kernel
theorem dX9_next_102 : decode cX9_next 102 = .ok (.dup, 1) := by decide +kernel
theorem dX9_next_103 : decode cX9_next 103 = .ok (.getfield 164, 3) := by decide +kernel
theorem dX9_next_106 : decode cX9_next 106 = .ok (.iconst 1, 1) := by decide +kernel
theorem dX9_next_107 : decode cX9_next 107 = .ok (.iadd, 1) := by decide +kernel
theorem dX9_next_108 : decode cX9_next 108 = .ok (.putfield 164, 3) := by decide +kernel
theorem dX9_next_111 : decode cX9_next 111 = .ok (.aload_n 0, 1) := by decide +kernel
theorem dX9_next_112 : decode cX9_next 112 = .ok (.getfield 170, 3) := by decide +kernel
theorem dX9_next_115 : decode cX9_next 115 = .ok (.iconst 2, 1) := by decide +kernel
theorem dX9_next_116 : decode cX9_next 116 = .ok (.if_icmp .eq 11, 3) := by decide +kernel
theorem dX9_next_119 : decode cX9_next 119 = .ok (.aload_n 0, 1) := by decide +kernel
theorem dX9_next_120 : decode cX9_next 120 = .ok (.getfield 170, 3) := by decide +kernel
theorem dX9_next_123 : decode cX9_next 123 = .ok (.iconst 3, 1) := by decide +kernel
theorem dX9_next_124 : decode cX9_next 124 = .ok (.if_icmp .ne 46, 3) := by decide +kernel
theorem dX9_next_127 : decode cX9_next 127 = .ok (.aload_n 0, 1) := by decide +kernel
theorem dX9_next_128 : decode cX9_next 128 = .ok (.getfield 164, 3) := by decide +kernel
theorem dX9_next_131 : decode cX9_next 131 = .ok (.aload_n 0, 1) := by decide +kernel
theorem dX9_next_132 : decode cX9_next 132 = .ok (.getfield 157, 3) := by decide +kernel
theorem dX9_next_135 : decode cX9_next 135 = .ok (.if_icmp .ge 35, 3) := by decide +kernel
theorem dX9_next_138 : decode cX9_next 138 = .ok (.aload_n 0, 1) := by decide +kernel
theorem dX9_next_139 : decode cX9_next 139 = .ok (.getfield 28, 3) := by decide +kernel
theorem dX9_next_142 : decode cX9_next 142 = .ok (.aload_n 0, 1) := by decide +kernel
theorem dX9_next_143 : decode cX9_next 143 = .ok (.getfield 164, 3) := by decide +kernel
theorem dX9_next_146 : decode cX9_next 146 = .ok (.iaload, 1) := by decide +kernel
theorem dX9_next_147 : decode cX9_next 147 = .ok (.invokestatic 173, 3) := by decide +kernel
theorem dX9_next_150 : decode cX9_next 150 = .ok (.aload_n 0, 1) := by decide +kernel
theorem dX9_next_151 : decode cX9_next 151 = .ok (.getfield 170, 3) := by decide +kernel
theorem dX9_next_154 : decode cX9_next 154 = .ok (.if_icmp .ne 16, 3) := by decide +kernel
theorem dX9_next_157 : decode cX9_next 157 = .ok (.aload_n 0, 1) := by decide +kernel
theorem dX9_next_158 : decode cX9_next 158 = .ok (.dup, 1) := by decide +kernel
theorem dX9_next_159 : decode cX9_next 159 = .ok (.getfield 164, 3) := by decide +kernel
theorem dX9_next_162 : decode cX9_next 162 = .ok (.iconst 1, 1) := by decide +kernel
theorem dX9_next_163 : decode cX9_next 163 = .ok (.iadd, 1) := by decide +kernel
theorem dX9_next_164 : decode cX9_next 164 = .ok (.putfield 164, 3) := by decide +kernel
theorem dX9_next_167 : decode cX9_next 167 = .ok (.goto (-56), 3) := by decide +kernel
theorem dX9_next_170 : decode cX9_next 170 = .ok (.aload_n 0, 1) := by decide +kernel
theorem dX9_next_171 : decode cX9_next 171 = .ok (.getfield 170, 3) := by decide +kernel
theorem dX9_next_174 : decode cX9_next 174 = .ok (.iconst 3, 1) := by decide +kernel
theorem dX9_next_175 : decode cX9_next 175 = .ok (.if_icmp .ne 22, 3) := by decide +kernel
theorem dX9_next_178 : decode cX9_next 178 = .ok (.aload_n 0, 1) := by decide +kernel
theorem dX9_next_179 : decode cX9_next 179 = .ok (.getfield 164, 3) := by decide +kernel
theorem dX9_next_182 : decode cX9_next 182 = .ok (.aload_n 0, 1) := by decide +kernel
theorem dX9_next_183 : decode cX9_next 183 = .ok (.getfield 167, 3) := by decide +kernel
theorem dX9_next_186 : decode cX9_next 186 = .ok (.isub, 1) := by decide +kernel
theorem dX9_next_187 : decode cX9_next 187 = .ok (.iconst 3, 1) := by decide +kernel
theorem dX9_next_188 : decode cX9_next 188 = .ok (.if_icmp .le 9, 3) := by decide +kernel
theorem dX9_next_191 : decode cX9_next 191 = .ok (.aload_n 0, 1) := by decide +kernel
theorem dX9_next_192 : decode cX9_next 192 = .ok (.bipush 6, 2) := by decide +kernel
theorem dX9_next_194 : decode cX9_next 194 = .ok (.putfield 170, 3) := by decide +kernel
theorem dX9_next_197 : decode cX9_next 197 = .ok (.aload_n 0, 1) := by decide +kernel
theorem dX9_next_198 : decode cX9_next 198 = .ok (.iconst 0, 1) := by decide +kernel
theorem dX9_next_199 : decode cX9_next 199 = .ok (.putfield 176, 3) := by decide +kernel
theorem dX9_next_202 : decode cX9_next 202 = .ok (.aload_n 0, 1) := by decide +kernel
theorem dX9_next_203 : decode cX9_next 203 = .ok (.getfield 167, 3) := by decide +kernel
theorem dX9_next_206 : decode cX9_next 206 = .ok (.istore_n 1, 1) := by decide +kernel
theorem dX9_next_207 : decode cX9_next 207 = .ok (.iload_n 1, 1) := by decide +kernel
theorem dX9_next_208 : decode cX9_next 208 = .ok (.aload_n 0, 1) := by decide +kernel
theorem dX9_next_209 : decode cX9_next 209 = .ok (.getfield 164, 3) := by decide +kernel
theorem dX9_next_212 : decode cX9_next 212 = .ok (.if_icmp .ge 38, 3) := by decide +kernel
theorem dX9_next_215 : decode cX9_next 215 = .ok (.aload_n 0, 1) := by decide +kernel
theorem dX9_next_216 : decode cX9_next 216 = .ok (.getfield 170, 3) := by decide +kernel
theorem dX9_next_219 : decode cX9_next 219 = .ok (.iconst 3, 1) := by decide +kernel
theorem dX9_next_220 : decode cX9_next 220 = .ok (.if_icmp .ne 30, 3) := by decide +kernel
theorem dX9_next_223 : decode cX9_next 223 = .ok (.aload_n 0, 1) := by decide +kernel
theorem dX9_next_224 : decode cX9_next 224 = .ok (.bipush 10, 2) := by decide +kernel
theorem dX9_next_226 : decode cX9_next 226 = .ok (.aload_n 0, 1) := by decide +kernel
theorem dX9_next_227 : decode cX9_next 227 = .ok (.getfield 176, 3) := by decide +kernel
theorem dX9_next_230 : decode cX9_next 230 = .ok (.imul, 1) := by decide +kernel
theorem dX9_next_231 : decode cX9_next 231 = .ok (.aload_n 0, 1) := by decide +kernel
theorem dX9_next_232 : decode cX9_next 232 = .ok (.getfield 28, 3) := by decide +kernel
theorem dX9_next_235 : decode cX9_next 235 = .ok (.iload_n 1, 1) := by decide +kernel
theorem dX9_next_236 : decode cX9_next 236 = .ok (.iaload, 1) := by decide +kernel
theorem dX9_next_237 : decode cX9_next 237 = .ok (.iadd, 1) := by decide +kernel
theorem dX9_next_238 : decode cX9_next 238 = .ok (.bipush 48, 2) := by decide +kernel
theorem dX9_next_240 : decode cX9_next 240 = .ok (.isub, 1) := by decide +kernel
theorem dX9_next_241 : decode cX9_next 241 = .ok (.putfield 176, 3) := by decide +kernel
theorem dX9_next_244 : decode cX9_next 244 = .ok (.iinc 1 1, 3) := by decide +kernel
theorem dX9_next_247 : decode cX9_next 247 = .ok (.goto (-40), 3) := by decide +kernel
theorem dX9_next_250 : decode cX9_next 250 = .ok (.return_, 1) := by decide +kernel
theorem dX9_says_0 : decode cX9_says 0 = .ok (.aload_n 0, 1) := by decide +kernel
theorem dX9_says_1 : decode cX9_says 1 = .ok (.getfield 170, 3) := by decide +kernel
theorem dX9_says_4 : decode cX9_says 4 = .ok (.iconst 2, 1) := by decide +kernel
theorem dX9_says_5 : decode cX9_says 5 = .ok (.if_icmp .ne 19, 3) := by decide +kernel
theorem dX9_says_8 : decode cX9_says 8 = .ok (.aload_n 0, 1) := by decide +kernel
theorem dX9_says_9 : decode cX9_says 9 = .ok (.getfield 164, 3) := by decide +kernel
theorem dX9_says_12 : decode cX9_says 12 = .ok (.aload_n 0, 1) := by decide +kernel
theorem dX9_says_13 : decode cX9_says 13 = .ok (.getfield 167, 3) := by decide +kernel
theorem dX9_says_16 : decode cX9_says 16 = .ok (.isub, 1) := by decide +kernel
theorem dX9_says_17 : decode cX9_says 17 = .ok (.aload_n 1, 1) := by decide +kernel
theorem dX9_says_18 : decode cX9_says 18 = .ok (.invokevirtual 152, 3) := by decide +kernel
theorem dX9_says_21 : decode cX9_says 21 = .ok (.if_icmp .eq 5, 3) := by decide +kernel
theorem dX9_says_24 : decode cX9_says 24 = .ok (.iconst 0, 1) := by decide +kernel
theorem dX9_says_25 : decode cX9_says 25 = .ok (.ireturn, 1) := by decide +kernel
theorem dX9_says_26 : decode cX9_says 26 = .ok (.iconst 0, 1) := by decide +kernel
theorem dX9_says_27 : decode cX9_says 27 = .ok (.istore_n 2, 1) := by decide +kernel
theorem dX9_says_28 : decode cX9_says 28 = .ok (.iload_n 2, 1) := by decide +kernel
theorem dX9_says_29 : decode cX9_says 29 = .ok (.aload_n 1, 1) := by decide +kernel
theorem dX9_says_30 : decode cX9_says 30 = .ok (.invokevirtual 152, 3) := by decide +kernel
theorem dX9_says_33 : decode cX9_says 33 = .ok (.if_icmp .ge 30, 3) := by decide +kernel
theorem dX9_says_36 : decode cX9_says 36 = .ok (.aload_n 0, 1) := by decide +kernel
theorem dX9_says_37 : decode cX9_says 37 = .ok (.getfield 28, 3) := by decide +kernel
theorem dX9_says_40 : decode cX9_says 40 = .ok (.aload_n 0, 1) := by decide +kernel
theorem dX9_says_41 : decode cX9_says 41 = .ok (.getfield 167, 3) := by decide +kernel
theorem dX9_says_44 : decode cX9_says 44 = .ok (.iload_n 2, 1) := by decide +kernel
theorem dX9_says_45 : decode cX9_says 45 = .ok (.iadd, 1) := by decide +kernel
theorem dX9_says_46 : decode cX9_says 46 = .ok (.iaload, 1) := by decide +kernel
theorem dX9_says_47 : decode cX9_says 47 = .ok (.aload_n 1, 1) := by decide +kernel
theorem dX9_says_48 : decode cX9_says 48 = .ok (.iload_n 2, 1) := by decide +kernel
theorem dX9_says_49 : decode cX9_says 49 = .ok (.invokevirtual 160, 3) := by decide +kernel
theorem dX9_says_52 : decode cX9_says 52 = .ok (.if_icmp .eq 5, 3) := by decide +kernel
theorem dX9_says_55 : decode cX9_says 55 = .ok (.iconst 0, 1) := by decide +kernel
theorem dX9_says_56 : decode cX9_says 56 = .ok (.ireturn, 1) := by decide +kernel
theorem dX9_says_57 : decode cX9_says 57 = .ok (.iinc 2 1, 3) := by decide +kernel
theorem dX9_says_60 : decode cX9_says 60 = .ok (.goto (-32), 3) := by decide +kernel
theorem dX9_says_63 : decode cX9_says 63 = .ok (.iconst 1, 1) := by decide +kernel
theorem dX9_says_64 : decode cX9_says 64 = .ok (.ireturn, 1) := by decide +kernel
theorem dX9_fail_0 : decode cX9_fail 0 = .ok (.aload_n 0, 1) := by decide +kernel
theorem dX9_fail_1 : decode cX9_fail 1 = .ok (.getfield 179, 3) := by decide +kernel
theorem dX9_fail_4 : decode cX9_fail 4 = .ok (.ifCond .ne 16, 3) := by decide +kernel
theorem dX9_fail_7 : decode cX9_fail 7 = .ok (.aload_n 0, 1) := by decide +kernel
theorem dX9_fail_8 : decode cX9_fail 8 = .ok (.iload_n 1, 1) := by decide +kernel
theorem dX9_fail_9 : decode cX9_fail 9 = .ok (.putfield 179, 3) := by decide +kernel
theorem dX9_fail_12 : decode cX9_fail 12 = .ok (.aload_n 0, 1) := by decide +kernel
theorem dX9_fail_13 : decode cX9_fail 13 = .ok (.aload_n 0, 1) := by decide +kernel
theorem dX9_fail_14 : decode cX9_fail 14 = .ok (.getfield 167, 3) := by decide +kernel
theorem dX9_fail_17 : decode cX9_fail 17 = .ok (.putfield 34, 3) := by decide +kernel
theorem dX9_fail_20 : decode cX9_fail 20 = .ok (.iconst 0, 1) := by decide +kernel
theorem dX9_fail_21 : decode cX9_fail 21 = .ok (.ireturn, 1) := by decide +kernel
theorem dX9_is_0 : decode cX9_is 0 = .ok (.aload_n 0, 1) := by decide +kernel
theorem dX9_is_1 : decode cX9_is 1 = .ok (.getfield 170, 3) := by decide +kernel
theorem dX9_is_4 : decode cX9_is 4 = .ok (.iload_n 1, 1) := by decide +kernel
theorem dX9_is_5 : decode cX9_is 5 = .ok (.if_icmp .eq 11, 3) := by decide +kernel
theorem dX9_is_8 : decode cX9_is 8 = .ok (.aload_n 0, 1) := by decide +kernel
theorem dX9_is_9 : decode cX9_is 9 = .ok (.iconst 1, 1) := by decide +kernel
theorem dX9_is_10 : decode cX9_is 10 = .ok (.invokevirtual 182, 3) := by decide +kernel
theorem dX9_is_13 : decode cX9_is 13 = .ok (.ifCond .eq 7, 3) := by decide +kernel
theorem dX9_is_16 : decode cX9_is 16 = .ok (.iconst 1, 1) := by decide +kernel
theorem dX9_is_17 : decode cX9_is 17 = .ok (.goto 4, 3) := by decide +kernel
theorem dX9_is_20 : decode cX9_is 20 = .ok (.iconst 0, 1) := by decide +kernel
theorem dX9_is_21 : decode cX9_is 21 = .ok (.ireturn, 1) := by decide +kernel
theorem dX9_number_0 : decode cX9_number 0 = .ok (.aload_n 0, 1) := by decide +kernel
theorem dX9_number_1 : decode cX9_number 1 = .ok (.iconst 3, 1) := by decide +kernel
theorem dX9_number_2 : decode cX9_number 2 = .ok (.invokevirtual 185, 3) := by decide +kernel
theorem dX9_number_5 : decode cX9_number 5 = .ok (.ifCond .ne 5, 3) := by decide +kernel
theorem dX9_number_8 : decode cX9_number 8 = .ok (.iconst 0, 1) := by decide +kernel
theorem dX9_number_9 : decode cX9_number 9 = .ok (.ireturn, 1) := by decide +kernel
theorem dX9_number_10 : decode cX9_number 10 = .ok (.aload_n 0, 1) := by decide +kernel
theorem dX9_number_11 : decode cX9_number 11 = .ok (.getfield 176, 3) := by decide +kernel
theorem dX9_number_14 : decode cX9_number 14 = .ok (.iload_n 2, 1) := by decide +kernel
theorem dX9_number_15 : decode cX9_number 15 = .ok (.iload_n 3, 1) := by decide +kernel
theorem dX9_number_16 : decode cX9_number 16 = .ok (.invokestatic 60, 3) := by decide +kernel
theorem dX9_number_19 : decode cX9_number 19 = .ok (.ifCond .ne 9, 3) := by decide +kernel
theorem dX9_number_22 : decode cX9_number 22 = .ok (.aload_n 0, 1) := by decide +kernel
theorem dX9_number_23 : decode cX9_number 23 = .ok (.iconst 2, 1) := by decide +kernel
theorem dX9_number_24 : decode cX9_number 24 = .ok (.invokevirtual 182, 3) := by decide +kernel
theorem dX9_number_27 : decode cX9_number 27 = .ok (.ireturn, 1) := by decide +kernel
theorem dX9_number_28 : decode cX9_number 28 = .ok (.aload_n 0, 1) := by decide +kernel
theorem dX9_number_29 : decode cX9_number 29 = .ok (.getfield 42, 3) := by decide +kernel
theorem dX9_number_32 : decode cX9_number 32 = .ok (.iload_n 1, 1) := by decide +kernel
theorem dX9_number_33 : decode cX9_number 33 = .ok (.aload_n 0, 1) := by decide +kernel
theorem dX9_number_34 : decode cX9_number 34 = .ok (.getfield 176, 3) := by decide +kernel
theorem dX9_number_37 : decode cX9_number 37 = .ok (.iastore, 1) := by decide +kernel
theorem dX9_number_38 : decode cX9_number 38 = .ok (.aload_n 0, 1) := by decide +kernel
theorem dX9_number_39 : decode cX9_number 39 = .ok (.invokevirtual 188, 3) := by decide +kernel
theorem dX9_number_42 : decode cX9_number 42 = .ok (.iconst 1, 1) := by decide +kernel
theorem dX9_number_43 : decode cX9_number 43 = .ok (.ireturn, 1) := by decide +kernel
theorem dX9_chimneyAt_0 : decode cX9_chimneyAt 0 = .ok (.aload_n 0, 1) := by decide +kernel
theorem dX9_chimneyAt_1 : decode cX9_chimneyAt 1 = .ok (.iload_n 1, 1) := by decide +kernel
theorem dX9_chimneyAt_2 : decode cX9_chimneyAt 2 = .ok (.iconst 0, 1) := by decide +kernel
theorem dX9_chimneyAt_3 : decode cX9_chimneyAt 3 = .ok (.aload_n 0, 1) := by decide +kernel
theorem dX9_chimneyAt_4 : decode cX9_chimneyAt 4 = .ok (.getfield 7, 3) := by decide +kernel
theorem dX9_chimneyAt_7 : decode cX9_chimneyAt 7 = .ok (.iconst 0, 1) := by decide +kernel
theorem dX9_chimneyAt_8 : decode cX9_chimneyAt 8 = .ok (.iaload, 1) := by decide +kernel
theorem dX9_chimneyAt_9 : decode cX9_chimneyAt 9 = .ok (.iconst 1, 1) := by decide +kernel
theorem dX9_chimneyAt_10 : decode cX9_chimneyAt 10 = .ok (.isub, 1) := by decide +kernel
theorem dX9_chimneyAt_11 : decode cX9_chimneyAt 11 = .ok (.invokevirtual 191, 3) := by decide +kernel
theorem dX9_chimneyAt_14 : decode cX9_chimneyAt 14 = .ok (.ireturn, 1) := by decide +kernel
theorem dX9_catAt_0 : decode cX9_catAt 0 = .ok (.aload_n 0, 1) := by decide +kernel
theorem dX9_catAt_1 : decode cX9_catAt 1 = .ok (.iload_n 1, 1) := by decide +kernel
theorem dX9_catAt_2 : decode cX9_catAt 2 = .ok (.iconst 0, 1) := by decide +kernel
theorem dX9_catAt_3 : decode cX9_catAt 3 = .ok (.aload_n 0, 1) := by decide +kernel
theorem dX9_catAt_4 : decode cX9_catAt 4 = .ok (.getfield 7, 3) := by decide +kernel
theorem dX9_catAt_7 : decode cX9_catAt 7 = .ok (.iconst 2, 1) := by decide +kernel
theorem dX9_catAt_8 : decode cX9_catAt 8 = .ok (.iaload, 1) := by decide +kernel
theorem dX9_catAt_9 : decode cX9_catAt 9 = .ok (.iconst 1, 1) := by decide +kernel
theorem dX9_catAt_10 : decode cX9_catAt 10 = .ok (.isub, 1) := by decide +kernel
theorem dX9_catAt_11 : decode cX9_catAt 11 = .ok (.invokevirtual 191, 3) := by decide +kernel
theorem dX9_catAt_14 : decode cX9_catAt 14 = .ok (.ireturn, 1) := by decide +kernel
theorem dX9_another_0 : decode cX9_another 0 = .ok (.aload_n 0, 1) := by decide +kernel
theorem dX9_another_1 : decode cX9_another 1 = .ok (.getfield 170, 3) := by decide +kernel
theorem dX9_another_4 : decode cX9_another 4 = .ok (.iconst 3, 1) := by decide +kernel
theorem dX9_another_5 : decode cX9_another 5 = .ok (.if_icmp .ne 24, 3) := by decide +kernel
theorem dX9_another_8 : decode cX9_another 8 = .ok (.aload_n 0, 1) := by decide +kernel
theorem dX9_another_9 : decode cX9_another 9 = .ok (.getfield 176, 3) := by decide +kernel
theorem dX9_another_12 : decode cX9_another 12 = .ok (.aload_n 0, 1) := by decide +kernel
theorem dX9_another_13 : decode cX9_another 13 = .ok (.getfield 42, 3) := by decide +kernel
theorem dX9_another_16 : decode cX9_another 16 = .ok (.iconst 0, 1) := by decide +kernel
theorem dX9_another_17 : decode cX9_another 17 = .ok (.iaload, 1) := by decide +kernel
theorem dX9_another_18 : decode cX9_another 18 = .ok (.if_icmp .ne 11, 3) := by decide +kernel
theorem dX9_another_21 : decode cX9_another 21 = .ok (.aload_n 0, 1) := by decide +kernel
theorem dX9_another_22 : decode cX9_another 22 = .ok (.iconst 2, 1) := by decide +kernel
theorem dX9_another_23 : decode cX9_another 23 = .ok (.invokevirtual 182, 3) := by decide +kernel
theorem dX9_another_26 : decode cX9_another 26 = .ok (.goto 10, 3) := by decide +kernel
theorem dX9_another_29 : decode cX9_another 29 = .ok (.aload_n 0, 1) := by decide +kernel
theorem dX9_another_30 : decode cX9_another 30 = .ok (.iconst 1, 1) := by decide +kernel
theorem dX9_another_31 : decode cX9_another 31 = .ok (.iconst 0, 1) := by decide +kernel
theorem dX9_another_32 : decode cX9_another 32 = .ok (.iload_n 1, 1) := by decide +kernel
theorem dX9_another_33 : decode cX9_another 33 = .ok (.invokevirtual 191, 3) := by decide +kernel
theorem dX9_another_36 : decode cX9_another 36 = .ok (.ireturn, 1) := by decide +kernel
theorem dX9_sizesAt_0 : decode cX9_sizesAt 0 = .ok (.aload_n 0, 1) := by decide +kernel
theorem dX9_sizesAt_1 : decode cX9_sizesAt 1 = .ok (.iload_n 1, 1) := by decide +kernel
theorem dX9_sizesAt_2 : decode cX9_sizesAt 2 = .ok (.iconst 1, 1) := by decide +kernel
theorem dX9_sizesAt_3 : decode cX9_sizesAt 3 = .ok (.bipush 9, 2) := by decide +kernel
theorem dX9_sizesAt_5 : decode cX9_sizesAt 5 = .ok (.invokevirtual 191, 3) := by decide +kernel
theorem dX9_sizesAt_8 : decode cX9_sizesAt 8 = .ok (.ifCond .eq 20, 3) := by decide +kernel
theorem dX9_sizesAt_11 : decode cX9_sizesAt 11 = .ok (.aload_n 0, 1) := by decide +kernel
theorem dX9_sizesAt_12 : decode cX9_sizesAt 12 = .ok (.iload_n 1, 1) := by decide +kernel
theorem dX9_sizesAt_13 : decode cX9_sizesAt 13 = .ok (.iconst 1, 1) := by decide +kernel
theorem dX9_sizesAt_14 : decode cX9_sizesAt 14 = .ok (.iadd, 1) := by decide +kernel
theorem dX9_sizesAt_15 : decode cX9_sizesAt 15 = .ok (.iconst 1, 1) := by decide +kernel
theorem dX9_sizesAt_16 : decode cX9_sizesAt 16 = .ok (.bipush 9, 2) := by decide +kernel
theorem dX9_sizesAt_18 : decode cX9_sizesAt 18 = .ok (.invokevirtual 191, 3) := by decide +kernel
theorem dX9_sizesAt_21 : decode cX9_sizesAt 21 = .ok (.ifCond .eq 7, 3) := by decide +kernel
theorem dX9_sizesAt_24 : decode cX9_sizesAt 24 = .ok (.iconst 1, 1) := by decide +kernel
theorem dX9_sizesAt_25 : decode cX9_sizesAt 25 = .ok (.goto 4, 3) := by decide +kernel
theorem dX9_sizesAt_28 : decode cX9_sizesAt 28 = .ok (.iconst 0, 1) := by decide +kernel
theorem dX9_sizesAt_29 : decode cX9_sizesAt 29 = .ok (.ireturn, 1) := by decide +kernel
theorem dX9_stops_0 : decode cX9_stops 0 = .ok (.aload_n 0, 1) := by decide +kernel
theorem dX9_stops_1 : decode cX9_stops 1 = .ok (.iconst 1, 1) := by decide +kernel
theorem dX9_stops_2 : decode cX9_stops 2 = .ok (.invokevirtual 185, 3) := by decide +kernel
theorem dX9_stops_5 : decode cX9_stops 5 = .ok (.ifCond .eq 19, 3) := by decide +kernel
theorem dX9_stops_8 : decode cX9_stops 8 = .ok (.iload_n 1, 1) := by decide +kernel
theorem dX9_stops_9 : decode cX9_stops 9 = .ok (.ifCond .ne 11, 3) := by decide +kernel
theorem dX9_stops_12 : decode cX9_stops 12 = .ok (.aload_n 0, 1) := by decide +kernel
theorem dX9_stops_13 : decode cX9_stops 13 = .ok (.iconst 3, 1) := by decide +kernel
theorem dX9_stops_14 : decode cX9_stops 14 = .ok (.invokevirtual 182, 3) := by decide +kernel
theorem dX9_stops_17 : decode cX9_stops 17 = .ok (.ifCond .eq 7, 3) := by decide +kernel
theorem dX9_stops_20 : decode cX9_stops 20 = .ok (.iconst 1, 1) := by decide +kernel
theorem dX9_stops_21 : decode cX9_stops 21 = .ok (.goto 4, 3) := by decide +kernel
theorem dX9_stops_24 : decode cX9_stops 24 = .ok (.iconst 0, 1) := by decide +kernel
theorem dX9_stops_25 : decode cX9_stops 25 = .ok (.ireturn, 1) := by decide +kernel
theorem dX9_readsChimney_0 : decode cX9_readsChimney 0 = .ok (.aload_n 0, 1) := by decide +kernel
theorem dX9_readsChimney_1 : decode cX9_readsChimney 1 = .ok (.iconst 0, 1) := by decide +kernel
theorem dX9_readsChimney_2 : decode cX9_readsChimney 2 = .ok (.iconst 0, 1) := by decide +kernel
theorem dX9_readsChimney_3 : decode cX9_readsChimney 3 = .ok (.bipush 9, 2) := by decide +kernel
theorem dX9_readsChimney_5 : decode cX9_readsChimney 5 = .ok (.invokevirtual 191, 3) := by decide +kernel
theorem dX9_readsChimney_8 : decode cX9_readsChimney 8 = .ok (.ifCond .eq 26, 3) := by decide +kernel
theorem dX9_readsChimney_11 : decode cX9_readsChimney 11 = .ok (.aload_n 0, 1) := by decide +kernel
theorem dX9_readsChimney_12 : decode cX9_readsChimney 12 = .ok (.aload_n 0, 1) := by decide +kernel
theorem dX9_readsChimney_13 : decode cX9_readsChimney 13 = .ok (.getfield 7, 3) := by decide +kernel
theorem dX9_readsChimney_16 : decode cX9_readsChimney 16 = .ok (.iconst 0, 1) := by decide +kernel
theorem dX9_readsChimney_17 : decode cX9_readsChimney 17 = .ok (.iaload, 1) := by decide +kernel
theorem dX9_readsChimney_18 : decode cX9_readsChimney 18 = .ok (.bipush 10, 2) := by decide +kernel
theorem dX9_readsChimney_20 : decode cX9_readsChimney 20 = .ok (.if_icmp .ge 7, 3) := by decide +kernel
theorem dX9_readsChimney_23 : decode cX9_readsChimney 23 = .ok (.iconst 1, 1) := by decide +kernel
theorem dX9_readsChimney_24 : decode cX9_readsChimney 24 = .ok (.goto 4, 3) := by decide +kernel
theorem dX9_readsChimney_27 : decode cX9_readsChimney 27 = .ok (.iconst 0, 1) := by decide +kernel
theorem dX9_readsChimney_28 : decode cX9_readsChimney 28 = .ok (.invokevirtual 194, 3) := by decide +kernel
theorem dX9_readsChimney_31 : decode cX9_readsChimney 31 = .ok (.ifCond .ne 5, 3) := by decide +kernel
theorem dX9_readsChimney_34 : decode cX9_readsChimney 34 = .ok (.iconst 0, 1) := by decide +kernel
theorem dX9_readsChimney_35 : decode cX9_readsChimney 35 = .ok (.ireturn, 1) := by decide +kernel
theorem dX9_readsChimney_36 : decode cX9_readsChimney 36 = .ok (.aload_n 0, 1) := by decide +kernel
theorem dX9_readsChimney_37 : decode cX9_readsChimney 37 = .ok (.aload_n 0, 1) := by decide +kernel
theorem dX9_readsChimney_38 : decode cX9_readsChimney 38 = .ok (.getfield 42, 3) := by decide +kernel
theorem dX9_readsChimney_41 : decode cX9_readsChimney 41 = .ok (.iconst 0, 1) := by decide +kernel
theorem dX9_readsChimney_42 : decode cX9_readsChimney 42 = .ok (.iaload, 1) := by decide +kernel
theorem dX9_readsChimney_43 : decode cX9_readsChimney 43 = .ok (.invokevirtual 198, 3) := by decide +kernel
theorem dX9_readsChimney_46 : decode cX9_readsChimney 46 = .ok (.pop, 1) := by decide +kernel
theorem dX9_readsChimney_47 : decode cX9_readsChimney 47 = .ok (.iconst 1, 1) := by decide +kernel
theorem dX9_readsChimney_48 : decode cX9_readsChimney 48 = .ok (.ireturn, 1) := by decide +kernel
theorem dX9_readsGutter_0 : decode cX9_readsGutter 0 = .ok (.aload_n 0, 1) := by decide +kernel
theorem dX9_readsGutter_1 : decode cX9_readsGutter 1 = .ok (.iconst 0, 1) := by decide +kernel
theorem dX9_readsGutter_2 : decode cX9_readsGutter 2 = .ok (.invokevirtual 201, 3) := by decide +kernel
theorem dX9_readsGutter_5 : decode cX9_readsGutter 5 = .ok (.ifCond .eq 52, 3) := by decide +kernel
theorem dX9_readsGutter_8 : decode cX9_readsGutter 8 = .ok (.aload_n 0, 1) := by decide +kernel
theorem dX9_readsGutter_9 : decode cX9_readsGutter 9 = .ok (.aload_n 0, 1) := by decide +kernel
theorem dX9_readsGutter_10 : decode cX9_readsGutter 10 = .ok (.getfield 7, 3) := by decide +kernel
theorem dX9_readsGutter_13 : decode cX9_readsGutter 13 = .ok (.iconst 0, 1) := by decide +kernel
theorem dX9_readsGutter_14 : decode cX9_readsGutter 14 = .ok (.iaload, 1) := by decide +kernel
theorem dX9_readsGutter_15 : decode cX9_readsGutter 15 = .ok (.iconst 1, 1) := by decide +kernel
theorem dX9_readsGutter_16 : decode cX9_readsGutter 16 = .ok (.isub, 1) := by decide +kernel
theorem dX9_readsGutter_17 : decode cX9_readsGutter 17 = .ok (.invokevirtual 204, 3) := by decide +kernel
theorem dX9_readsGutter_20 : decode cX9_readsGutter 20 = .ok (.ifCond .eq 37, 3) := by decide +kernel
theorem dX9_readsGutter_23 : decode cX9_readsGutter 23 = .ok (.aload_n 0, 1) := by decide +kernel
theorem dX9_readsGutter_24 : decode cX9_readsGutter 24 = .ok (.iconst 2, 1) := by decide +kernel
theorem dX9_readsGutter_25 : decode cX9_readsGutter 25 = .ok (.iconst 1, 1) := by decide +kernel
theorem dX9_readsGutter_26 : decode cX9_readsGutter 26 = .ok (.bipush 9, 2) := by decide +kernel
theorem dX9_readsGutter_28 : decode cX9_readsGutter 28 = .ok (.invokevirtual 191, 3) := by decide +kernel
theorem dX9_readsGutter_31 : decode cX9_readsGutter 31 = .ok (.ifCond .eq 26, 3) := by decide +kernel
theorem dX9_readsGutter_34 : decode cX9_readsGutter 34 = .ok (.aload_n 0, 1) := by decide +kernel
theorem dX9_readsGutter_35 : decode cX9_readsGutter 35 = .ok (.aload_n 0, 1) := by decide +kernel
theorem dX9_readsGutter_36 : decode cX9_readsGutter 36 = .ok (.getfield 7, 3) := by decide +kernel
theorem dX9_readsGutter_39 : decode cX9_readsGutter 39 = .ok (.iconst 1, 1) := by decide +kernel
theorem dX9_readsGutter_40 : decode cX9_readsGutter 40 = .ok (.iaload, 1) := by decide +kernel
theorem dX9_readsGutter_41 : decode cX9_readsGutter 41 = .ok (.bipush 20, 2) := by decide +kernel
theorem dX9_readsGutter_43 : decode cX9_readsGutter 43 = .ok (.if_icmp .ge 7, 3) := by decide +kernel
theorem dX9_readsGutter_46 : decode cX9_readsGutter 46 = .ok (.iconst 1, 1) := by decide +kernel
theorem dX9_readsGutter_47 : decode cX9_readsGutter 47 = .ok (.goto 4, 3) := by decide +kernel
theorem dX9_readsGutter_50 : decode cX9_readsGutter 50 = .ok (.iconst 0, 1) := by decide +kernel
theorem dX9_readsGutter_51 : decode cX9_readsGutter 51 = .ok (.invokevirtual 194, 3) := by decide +kernel
theorem dX9_readsGutter_54 : decode cX9_readsGutter 54 = .ok (.ifCond .ne 5, 3) := by decide +kernel
theorem dX9_readsGutter_57 : decode cX9_readsGutter 57 = .ok (.iconst 0, 1) := by decide +kernel
theorem dX9_readsGutter_58 : decode cX9_readsGutter 58 = .ok (.ireturn, 1) := by decide +kernel
theorem dX9_readsGutter_59 : decode cX9_readsGutter 59 = .ok (.aload_n 0, 1) := by decide +kernel
theorem dX9_readsGutter_60 : decode cX9_readsGutter 60 = .ok (.aload_n 0, 1) := by decide +kernel
theorem dX9_readsGutter_61 : decode cX9_readsGutter 61 = .ok (.getfield 42, 3) := by decide +kernel
theorem dX9_readsGutter_64 : decode cX9_readsGutter 64 = .ok (.iconst 0, 1) := by decide +kernel
theorem dX9_readsGutter_65 : decode cX9_readsGutter 65 = .ok (.iaload, 1) := by decide +kernel
theorem dX9_readsGutter_66 : decode cX9_readsGutter 66 = .ok (.aload_n 0, 1) := by decide +kernel
theorem dX9_readsGutter_67 : decode cX9_readsGutter 67 = .ok (.getfield 42, 3) := by decide +kernel
theorem dX9_readsGutter_70 : decode cX9_readsGutter 70 = .ok (.iconst 1, 1) := by decide +kernel
theorem dX9_readsGutter_71 : decode cX9_readsGutter 71 = .ok (.iaload, 1) := by decide +kernel
theorem dX9_readsGutter_72 : decode cX9_readsGutter 72 = .ok (.aload_n 0, 1) := by decide +kernel
theorem dX9_readsGutter_73 : decode cX9_readsGutter 73 = .ok (.getfield 42, 3) := by decide +kernel
theorem dX9_readsGutter_76 : decode cX9_readsGutter 76 = .ok (.iconst 2, 1) := by decide +kernel
theorem dX9_readsGutter_77 : decode cX9_readsGutter 77 = .ok (.iaload, 1) := by decide +kernel
theorem dX9_readsGutter_78 : decode cX9_readsGutter 78 = .ok (.invokevirtual 207, 3) := by decide +kernel
theorem dX9_readsGutter_81 : decode cX9_readsGutter 81 = .ok (.pop, 1) := by decide +kernel
theorem dX9_readsGutter_82 : decode cX9_readsGutter 82 = .ok (.iconst 1, 1) := by decide +kernel
theorem dX9_readsGutter_83 : decode cX9_readsGutter 83 = .ok (.ireturn, 1) := by decide +kernel
theorem dX9_readsCat_0 : decode cX9_readsCat 0 = .ok (.aload_n 0, 1) := by decide +kernel
theorem dX9_readsCat_1 : decode cX9_readsCat 1 = .ok (.iconst 0, 1) := by decide +kernel
theorem dX9_readsCat_2 : decode cX9_readsCat 2 = .ok (.invokevirtual 201, 3) := by decide +kernel
theorem dX9_readsCat_5 : decode cX9_readsCat 5 = .ok (.ifCond .eq 28, 3) := by decide +kernel
theorem dX9_readsCat_8 : decode cX9_readsCat 8 = .ok (.aload_n 0, 1) := by decide +kernel
theorem dX9_readsCat_9 : decode cX9_readsCat 9 = .ok (.iconst 1, 1) := by decide +kernel
theorem dX9_readsCat_10 : decode cX9_readsCat 10 = .ok (.invokevirtual 210, 3) := by decide +kernel
theorem dX9_readsCat_13 : decode cX9_readsCat 13 = .ok (.ifCond .eq 20, 3) := by decide +kernel
theorem dX9_readsCat_16 : decode cX9_readsCat 16 = .ok (.aload_n 0, 1) := by decide +kernel
theorem dX9_readsCat_17 : decode cX9_readsCat 17 = .ok (.aload_n 0, 1) := by decide +kernel
theorem dX9_readsCat_18 : decode cX9_readsCat 18 = .ok (.aload_n 0, 1) := by decide +kernel
theorem dX9_readsCat_19 : decode cX9_readsCat 19 = .ok (.getfield 42, 3) := by decide +kernel
theorem dX9_readsCat_22 : decode cX9_readsCat 22 = .ok (.iconst 0, 1) := by decide +kernel
theorem dX9_readsCat_23 : decode cX9_readsCat 23 = .ok (.iaload, 1) := by decide +kernel
theorem dX9_readsCat_24 : decode cX9_readsCat 24 = .ok (.invokevirtual 213, 3) := by decide +kernel
theorem dX9_readsCat_27 : decode cX9_readsCat 27 = .ok (.invokevirtual 194, 3) := by decide +kernel
theorem dX9_readsCat_30 : decode cX9_readsCat 30 = .ok (.ifCond .ne 5, 3) := by decide +kernel
theorem dX9_readsCat_33 : decode cX9_readsCat 33 = .ok (.iconst 0, 1) := by decide +kernel
theorem dX9_readsCat_34 : decode cX9_readsCat 34 = .ok (.ireturn, 1) := by decide +kernel
theorem dX9_readsCat_35 : decode cX9_readsCat 35 = .ok (.aload_n 0, 1) := by decide +kernel
theorem dX9_readsCat_36 : decode cX9_readsCat 36 = .ok (.aload_n 0, 1) := by decide +kernel
theorem dX9_readsCat_37 : decode cX9_readsCat 37 = .ok (.getfield 42, 3) := by decide +kernel
theorem dX9_readsCat_40 : decode cX9_readsCat 40 = .ok (.iconst 0, 1) := by decide +kernel
theorem dX9_readsCat_41 : decode cX9_readsCat 41 = .ok (.iaload, 1) := by decide +kernel
theorem dX9_readsCat_42 : decode cX9_readsCat 42 = .ok (.aload_n 0, 1) := by decide +kernel
theorem dX9_readsCat_43 : decode cX9_readsCat 43 = .ok (.getfield 42, 3) := by decide +kernel
theorem dX9_readsCat_46 : decode cX9_readsCat 46 = .ok (.iconst 1, 1) := by decide +kernel
theorem dX9_readsCat_47 : decode cX9_readsCat 47 = .ok (.iaload, 1) := by decide +kernel
theorem dX9_readsCat_48 : decode cX9_readsCat 48 = .ok (.aload_n 0, 1) := by decide +kernel
theorem dX9_readsCat_49 : decode cX9_readsCat 49 = .ok (.getfield 42, 3) := by decide +kernel
theorem dX9_readsCat_52 : decode cX9_readsCat 52 = .ok (.iconst 2, 1) := by decide +kernel
theorem dX9_readsCat_53 : decode cX9_readsCat 53 = .ok (.iaload, 1) := by decide +kernel
theorem dX9_readsCat_54 : decode cX9_readsCat 54 = .ok (.invokevirtual 131, 3) := by decide +kernel
theorem dX9_readsCat_57 : decode cX9_readsCat 57 = .ok (.pop, 1) := by decide +kernel
theorem dX9_readsCat_58 : decode cX9_readsCat 58 = .ok (.iconst 1, 1) := by decide +kernel
theorem dX9_readsCat_59 : decode cX9_readsCat 59 = .ok (.ireturn, 1) := by decide +kernel
theorem dX9_readsStep_0 : decode cX9_readsStep 0 = .ok (.aload_n 0, 1) := by decide +kernel
theorem dX9_readsStep_1 : decode cX9_readsStep 1 = .ok (.iconst 0, 1) := by decide +kernel
theorem dX9_readsStep_2 : decode cX9_readsStep 2 = .ok (.invokevirtual 216, 3) := by decide +kernel
theorem dX9_readsStep_5 : decode cX9_readsStep 5 = .ok (.ifCond .eq 51, 3) := by decide +kernel
theorem dX9_readsStep_8 : decode cX9_readsStep 8 = .ok (.aload_n 0, 1) := by decide +kernel
theorem dX9_readsStep_9 : decode cX9_readsStep 9 = .ok (.iconst 1, 1) := by decide +kernel
theorem dX9_readsStep_10 : decode cX9_readsStep 10 = .ok (.iconst 0, 1) := by decide +kernel
theorem dX9_readsStep_11 : decode cX9_readsStep 11 = .ok (.aload_n 0, 1) := by decide +kernel
theorem dX9_readsStep_12 : decode cX9_readsStep 12 = .ok (.getfield 7, 3) := by decide +kernel
theorem dX9_readsStep_15 : decode cX9_readsStep 15 = .ok (.iconst 1, 1) := by decide +kernel
theorem dX9_readsStep_16 : decode cX9_readsStep 16 = .ok (.iaload, 1) := by decide +kernel
theorem dX9_readsStep_17 : decode cX9_readsStep 17 = .ok (.iconst 1, 1) := by decide +kernel
theorem dX9_readsStep_18 : decode cX9_readsStep 18 = .ok (.isub, 1) := by decide +kernel
theorem dX9_readsStep_19 : decode cX9_readsStep 19 = .ok (.invokevirtual 191, 3) := by decide +kernel
theorem dX9_readsStep_22 : decode cX9_readsStep 22 = .ok (.ifCond .eq 34, 3) := by decide +kernel
theorem dX9_readsStep_25 : decode cX9_readsStep 25 = .ok (.aload_n 0, 1) := by decide +kernel
theorem dX9_readsStep_26 : decode cX9_readsStep 26 = .ok (.aload_n 0, 1) := by decide +kernel
theorem dX9_readsStep_27 : decode cX9_readsStep 27 = .ok (.aload_n 0, 1) := by decide +kernel
theorem dX9_readsStep_28 : decode cX9_readsStep 28 = .ok (.getfield 42, 3) := by decide +kernel
theorem dX9_readsStep_31 : decode cX9_readsStep 31 = .ok (.iconst 0, 1) := by decide +kernel
theorem dX9_readsStep_32 : decode cX9_readsStep 32 = .ok (.iaload, 1) := by decide +kernel
theorem dX9_readsStep_33 : decode cX9_readsStep 33 = .ok (.aload_n 0, 1) := by decide +kernel
theorem dX9_readsStep_34 : decode cX9_readsStep 34 = .ok (.getfield 42, 3) := by decide +kernel
theorem dX9_readsStep_37 : decode cX9_readsStep 37 = .ok (.iconst 1, 1) := by decide +kernel
theorem dX9_readsStep_38 : decode cX9_readsStep 38 = .ok (.iaload, 1) := by decide +kernel
theorem dX9_readsStep_39 : decode cX9_readsStep 39 = .ok (.invokevirtual 219, 3) := by decide +kernel
theorem dX9_readsStep_42 : decode cX9_readsStep 42 = .ok (.ifCond .ne 7, 3) := by decide +kernel
theorem dX9_readsStep_45 : decode cX9_readsStep 45 = .ok (.iconst 1, 1) := by decide +kernel
theorem dX9_readsStep_46 : decode cX9_readsStep 46 = .ok (.goto 4, 3) := by decide +kernel
theorem dX9_readsStep_49 : decode cX9_readsStep 49 = .ok (.iconst 0, 1) := by decide +kernel
theorem dX9_readsStep_50 : decode cX9_readsStep 50 = .ok (.invokevirtual 194, 3) := by decide +kernel
theorem dX9_readsStep_53 : decode cX9_readsStep 53 = .ok (.ifCond .ne 5, 3) := by decide +kernel
theorem dX9_readsStep_56 : decode cX9_readsStep 56 = .ok (.iconst 0, 1) := by decide +kernel
theorem dX9_readsStep_57 : decode cX9_readsStep 57 = .ok (.ireturn, 1) := by decide +kernel
theorem dX9_readsStep_58 : decode cX9_readsStep 58 = .ok (.aload_n 0, 1) := by decide +kernel
theorem dX9_readsStep_59 : decode cX9_readsStep 59 = .ok (.aload_n 0, 1) := by decide +kernel
theorem dX9_readsStep_60 : decode cX9_readsStep 60 = .ok (.getfield 42, 3) := by decide +kernel
theorem dX9_readsStep_63 : decode cX9_readsStep 63 = .ok (.iconst 0, 1) := by decide +kernel
theorem dX9_readsStep_64 : decode cX9_readsStep 64 = .ok (.iaload, 1) := by decide +kernel
theorem dX9_readsStep_65 : decode cX9_readsStep 65 = .ok (.aload_n 0, 1) := by decide +kernel
theorem dX9_readsStep_66 : decode cX9_readsStep 66 = .ok (.getfield 42, 3) := by decide +kernel
theorem dX9_readsStep_69 : decode cX9_readsStep 69 = .ok (.iconst 1, 1) := by decide +kernel
theorem dX9_readsStep_70 : decode cX9_readsStep 70 = .ok (.iaload, 1) := by decide +kernel
theorem dX9_readsStep_71 : decode cX9_readsStep 71 = .ok (.invokevirtual 222, 3) := by decide +kernel
theorem dX9_readsStep_74 : decode cX9_readsStep 74 = .ok (.pop, 1) := by decide +kernel
theorem dX9_readsStep_75 : decode cX9_readsStep 75 = .ok (.iconst 1, 1) := by decide +kernel
theorem dX9_readsStep_76 : decode cX9_readsStep 76 = .ok (.ireturn, 1) := by decide +kernel
theorem dX9_readsClaim_0 : decode cX9_readsClaim 0 = .ok (.aload_n 0, 1) := by decide +kernel
theorem dX9_readsClaim_1 : decode cX9_readsClaim 1 = .ok (.iconst 0, 1) := by decide +kernel
theorem dX9_readsClaim_2 : decode cX9_readsClaim 2 = .ok (.invokevirtual 216, 3) := by decide +kernel
theorem dX9_readsClaim_5 : decode cX9_readsClaim 5 = .ok (.ifCond .eq 28, 3) := by decide +kernel
theorem dX9_readsClaim_8 : decode cX9_readsClaim 8 = .ok (.aload_n 0, 1) := by decide +kernel
theorem dX9_readsClaim_9 : decode cX9_readsClaim 9 = .ok (.aload_n 0, 1) := by decide +kernel
theorem dX9_readsClaim_10 : decode cX9_readsClaim 10 = .ok (.aload_n 0, 1) := by decide +kernel
theorem dX9_readsClaim_11 : decode cX9_readsClaim 11 = .ok (.getfield 42, 3) := by decide +kernel
theorem dX9_readsClaim_14 : decode cX9_readsClaim 14 = .ok (.iconst 0, 1) := by decide +kernel
theorem dX9_readsClaim_15 : decode cX9_readsClaim 15 = .ok (.iaload, 1) := by decide +kernel
theorem dX9_readsClaim_16 : decode cX9_readsClaim 16 = .ok (.invokevirtual 225, 3) := by decide +kernel
theorem dX9_readsClaim_19 : decode cX9_readsClaim 19 = .ok (.ifCond .ne 7, 3) := by decide +kernel
theorem dX9_readsClaim_22 : decode cX9_readsClaim 22 = .ok (.iconst 1, 1) := by decide +kernel
theorem dX9_readsClaim_23 : decode cX9_readsClaim 23 = .ok (.goto 4, 3) := by decide +kernel
theorem dX9_readsClaim_26 : decode cX9_readsClaim 26 = .ok (.iconst 0, 1) := by decide +kernel
theorem dX9_readsClaim_27 : decode cX9_readsClaim 27 = .ok (.invokevirtual 194, 3) := by decide +kernel
theorem dX9_readsClaim_30 : decode cX9_readsClaim 30 = .ok (.ifCond .ne 5, 3) := by decide +kernel
theorem dX9_readsClaim_33 : decode cX9_readsClaim 33 = .ok (.iconst 0, 1) := by decide +kernel
theorem dX9_readsClaim_34 : decode cX9_readsClaim 34 = .ok (.ireturn, 1) := by decide +kernel
theorem dX9_readsClaim_35 : decode cX9_readsClaim 35 = .ok (.aload_n 0, 1) := by decide +kernel
theorem dX9_readsClaim_36 : decode cX9_readsClaim 36 = .ok (.aload_n 0, 1) := by decide +kernel
theorem dX9_readsClaim_37 : decode cX9_readsClaim 37 = .ok (.getfield 42, 3) := by decide +kernel
theorem dX9_readsClaim_40 : decode cX9_readsClaim 40 = .ok (.iconst 0, 1) := by decide +kernel
theorem dX9_readsClaim_41 : decode cX9_readsClaim 41 = .ok (.iaload, 1) := by decide +kernel
theorem dX9_readsClaim_42 : decode cX9_readsClaim 42 = .ok (.invokevirtual 228, 3) := by decide +kernel
theorem dX9_readsClaim_45 : decode cX9_readsClaim 45 = .ok (.pop, 1) := by decide +kernel
theorem dX9_readsClaim_46 : decode cX9_readsClaim 46 = .ok (.iconst 1, 1) := by decide +kernel
theorem dX9_readsClaim_47 : decode cX9_readsClaim 47 = .ok (.ireturn, 1) := by decide +kernel
theorem dX9_readsAbandon_0 : decode cX9_readsAbandon 0 = .ok (.aload_n 0, 1) := by decide +kernel
theorem dX9_readsAbandon_1 : decode cX9_readsAbandon 1 = .ok (.iconst 0, 1) := by decide +kernel
theorem dX9_readsAbandon_2 : decode cX9_readsAbandon 2 = .ok (.invokevirtual 201, 3) := by decide +kernel
theorem dX9_readsAbandon_5 : decode cX9_readsAbandon 5 = .ok (.ifCond .eq 29, 3) := by decide +kernel
theorem dX9_readsAbandon_8 : decode cX9_readsAbandon 8 = .ok (.aload_n 0, 1) := by decide +kernel
theorem dX9_readsAbandon_9 : decode cX9_readsAbandon 9 = .ok (.aload_n 0, 1) := by decide +kernel
theorem dX9_readsAbandon_10 : decode cX9_readsAbandon 10 = .ok (.aload_n 0, 1) := by decide +kernel
theorem dX9_readsAbandon_11 : decode cX9_readsAbandon 11 = .ok (.getfield 42, 3) := by decide +kernel
theorem dX9_readsAbandon_14 : decode cX9_readsAbandon 14 = .ok (.iconst 0, 1) := by decide +kernel
theorem dX9_readsAbandon_15 : decode cX9_readsAbandon 15 = .ok (.iaload, 1) := by decide +kernel
theorem dX9_readsAbandon_16 : decode cX9_readsAbandon 16 = .ok (.invokevirtual 68, 3) := by decide +kernel
theorem dX9_readsAbandon_19 : decode cX9_readsAbandon 19 = .ok (.iconst (-1), 1) := by decide +kernel
theorem dX9_readsAbandon_20 : decode cX9_readsAbandon 20 = .ok (.if_icmp .eq 7, 3) := by decide +kernel
theorem dX9_readsAbandon_23 : decode cX9_readsAbandon 23 = .ok (.iconst 1, 1) := by decide +kernel
theorem dX9_readsAbandon_24 : decode cX9_readsAbandon 24 = .ok (.goto 4, 3) := by decide +kernel
theorem dX9_readsAbandon_27 : decode cX9_readsAbandon 27 = .ok (.iconst 0, 1) := by decide +kernel
theorem dX9_readsAbandon_28 : decode cX9_readsAbandon 28 = .ok (.invokevirtual 194, 3) := by decide +kernel
theorem dX9_readsAbandon_31 : decode cX9_readsAbandon 31 = .ok (.ifCond .ne 5, 3) := by decide +kernel
theorem dX9_readsAbandon_34 : decode cX9_readsAbandon 34 = .ok (.iconst 0, 1) := by decide +kernel
theorem dX9_readsAbandon_35 : decode cX9_readsAbandon 35 = .ok (.ireturn, 1) := by decide +kernel
theorem dX9_readsAbandon_36 : decode cX9_readsAbandon 36 = .ok (.aload_n 0, 1) := by decide +kernel
theorem dX9_readsAbandon_37 : decode cX9_readsAbandon 37 = .ok (.aload_n 0, 1) := by decide +kernel
theorem dX9_readsAbandon_38 : decode cX9_readsAbandon 38 = .ok (.getfield 42, 3) := by decide +kernel
theorem dX9_readsAbandon_41 : decode cX9_readsAbandon 41 = .ok (.iconst 0, 1) := by decide +kernel
theorem dX9_readsAbandon_42 : decode cX9_readsAbandon 42 = .ok (.iaload, 1) := by decide +kernel
theorem dX9_readsAbandon_43 : decode cX9_readsAbandon 43 = .ok (.invokevirtual 231, 3) := by decide +kernel
theorem dX9_readsAbandon_46 : decode cX9_readsAbandon 46 = .ok (.pop, 1) := by decide +kernel
theorem dX9_readsAbandon_47 : decode cX9_readsAbandon 47 = .ok (.iconst 1, 1) := by decide +kernel
theorem dX9_readsAbandon_48 : decode cX9_readsAbandon 48 = .ok (.ireturn, 1) := by decide +kernel
theorem dX9_readsChase_0 : decode cX9_readsChase 0 = .ok (.aload_n 0, 1) := by decide +kernel
theorem dX9_readsChase_1 : decode cX9_readsChase 1 = .ok (.iconst 0, 1) := by decide +kernel
theorem dX9_readsChase_2 : decode cX9_readsChase 2 = .ok (.invokevirtual 216, 3) := by decide +kernel
theorem dX9_readsChase_5 : decode cX9_readsChase 5 = .ok (.ifCond .eq 49, 3) := by decide +kernel
theorem dX9_readsChase_8 : decode cX9_readsChase 8 = .ok (.aload_n 0, 1) := by decide +kernel
theorem dX9_readsChase_9 : decode cX9_readsChase 9 = .ok (.aload_n 0, 1) := by decide +kernel
theorem dX9_readsChase_10 : decode cX9_readsChase 10 = .ok (.getfield 7, 3) := by decide +kernel
theorem dX9_readsChase_13 : decode cX9_readsChase 13 = .ok (.iconst 2, 1) := by decide +kernel
theorem dX9_readsChase_14 : decode cX9_readsChase 14 = .ok (.iaload, 1) := by decide +kernel
theorem dX9_readsChase_15 : decode cX9_readsChase 15 = .ok (.iconst 1, 1) := by decide +kernel
theorem dX9_readsChase_16 : decode cX9_readsChase 16 = .ok (.isub, 1) := by decide +kernel
theorem dX9_readsChase_17 : decode cX9_readsChase 17 = .ok (.invokevirtual 204, 3) := by decide +kernel
theorem dX9_readsChase_20 : decode cX9_readsChase 20 = .ok (.ifCond .eq 34, 3) := by decide +kernel
theorem dX9_readsChase_23 : decode cX9_readsChase 23 = .ok (.aload_n 0, 1) := by decide +kernel
theorem dX9_readsChase_24 : decode cX9_readsChase 24 = .ok (.aload_n 0, 1) := by decide +kernel
theorem dX9_readsChase_25 : decode cX9_readsChase 25 = .ok (.aload_n 0, 1) := by decide +kernel
theorem dX9_readsChase_26 : decode cX9_readsChase 26 = .ok (.getfield 42, 3) := by decide +kernel
theorem dX9_readsChase_29 : decode cX9_readsChase 29 = .ok (.iconst 0, 1) := by decide +kernel
theorem dX9_readsChase_30 : decode cX9_readsChase 30 = .ok (.iaload, 1) := by decide +kernel
theorem dX9_readsChase_31 : decode cX9_readsChase 31 = .ok (.aload_n 0, 1) := by decide +kernel
theorem dX9_readsChase_32 : decode cX9_readsChase 32 = .ok (.getfield 42, 3) := by decide +kernel
theorem dX9_readsChase_35 : decode cX9_readsChase 35 = .ok (.iconst 1, 1) := by decide +kernel
theorem dX9_readsChase_36 : decode cX9_readsChase 36 = .ok (.iaload, 1) := by decide +kernel
theorem dX9_readsChase_37 : decode cX9_readsChase 37 = .ok (.invokevirtual 234, 3) := by decide +kernel
theorem dX9_readsChase_40 : decode cX9_readsChase 40 = .ok (.ifCond .ne 7, 3) := by decide +kernel
theorem dX9_readsChase_43 : decode cX9_readsChase 43 = .ok (.iconst 1, 1) := by decide +kernel
theorem dX9_readsChase_44 : decode cX9_readsChase 44 = .ok (.goto 4, 3) := by decide +kernel
theorem dX9_readsChase_47 : decode cX9_readsChase 47 = .ok (.iconst 0, 1) := by decide +kernel
theorem dX9_readsChase_48 : decode cX9_readsChase 48 = .ok (.invokevirtual 194, 3) := by decide +kernel
theorem dX9_readsChase_51 : decode cX9_readsChase 51 = .ok (.ifCond .ne 5, 3) := by decide +kernel
theorem dX9_readsChase_54 : decode cX9_readsChase 54 = .ok (.iconst 0, 1) := by decide +kernel
theorem dX9_readsChase_55 : decode cX9_readsChase 55 = .ok (.ireturn, 1) := by decide +kernel
theorem dX9_readsChase_56 : decode cX9_readsChase 56 = .ok (.aload_n 0, 1) := by decide +kernel
theorem dX9_readsChase_57 : decode cX9_readsChase 57 = .ok (.aload_n 0, 1) := by decide +kernel
theorem dX9_readsChase_58 : decode cX9_readsChase 58 = .ok (.getfield 42, 3) := by decide +kernel
theorem dX9_readsChase_61 : decode cX9_readsChase 61 = .ok (.iconst 0, 1) := by decide +kernel
theorem dX9_readsChase_62 : decode cX9_readsChase 62 = .ok (.iaload, 1) := by decide +kernel
theorem dX9_readsChase_63 : decode cX9_readsChase 63 = .ok (.aload_n 0, 1) := by decide +kernel
theorem dX9_readsChase_64 : decode cX9_readsChase 64 = .ok (.getfield 42, 3) := by decide +kernel
theorem dX9_readsChase_67 : decode cX9_readsChase 67 = .ok (.iconst 1, 1) := by decide +kernel
theorem dX9_readsChase_68 : decode cX9_readsChase 68 = .ok (.iaload, 1) := by decide +kernel
theorem dX9_readsChase_69 : decode cX9_readsChase 69 = .ok (.invokevirtual 237, 3) := by decide +kernel
theorem dX9_readsChase_72 : decode cX9_readsChase 72 = .ok (.pop, 1) := by decide +kernel
theorem dX9_readsChase_73 : decode cX9_readsChase 73 = .ok (.iconst 1, 1) := by decide +kernel
theorem dX9_readsChase_74 : decode cX9_readsChase 74 = .ok (.ireturn, 1) := by decide +kernel
theorem dX9_readsTruce_0 : decode cX9_readsTruce 0 = .ok (.aload_n 0, 1) := by decide +kernel
theorem dX9_readsTruce_1 : decode cX9_readsTruce 1 = .ok (.iconst 0, 1) := by decide +kernel
theorem dX9_readsTruce_2 : decode cX9_readsTruce 2 = .ok (.invokevirtual 216, 3) := by decide +kernel
theorem dX9_readsTruce_5 : decode cX9_readsTruce 5 = .ok (.ifCond .eq 69, 3) := by decide +kernel
theorem dX9_readsTruce_8 : decode cX9_readsTruce 8 = .ok (.aload_n 0, 1) := by decide +kernel
theorem dX9_readsTruce_9 : decode cX9_readsTruce 9 = .ok (.aload_n 0, 1) := by decide +kernel
theorem dX9_readsTruce_10 : decode cX9_readsTruce 10 = .ok (.getfield 7, 3) := by decide +kernel
theorem dX9_readsTruce_13 : decode cX9_readsTruce 13 = .ok (.iconst 2, 1) := by decide +kernel
theorem dX9_readsTruce_14 : decode cX9_readsTruce 14 = .ok (.iaload, 1) := by decide +kernel
theorem dX9_readsTruce_15 : decode cX9_readsTruce 15 = .ok (.iconst 1, 1) := by decide +kernel
theorem dX9_readsTruce_16 : decode cX9_readsTruce 16 = .ok (.isub, 1) := by decide +kernel
theorem dX9_readsTruce_17 : decode cX9_readsTruce 17 = .ok (.invokevirtual 204, 3) := by decide +kernel
theorem dX9_readsTruce_20 : decode cX9_readsTruce 20 = .ok (.ifCond .eq 54, 3) := by decide +kernel
theorem dX9_readsTruce_23 : decode cX9_readsTruce 23 = .ok (.aload_n 0, 1) := by decide +kernel
theorem dX9_readsTruce_24 : decode cX9_readsTruce 24 = .ok (.iconst 2, 1) := by decide +kernel
theorem dX9_readsTruce_25 : decode cX9_readsTruce 25 = .ok (.iconst 1, 1) := by decide +kernel
theorem dX9_readsTruce_26 : decode cX9_readsTruce 26 = .ok (.bipush 9, 2) := by decide +kernel
theorem dX9_readsTruce_28 : decode cX9_readsTruce 28 = .ok (.invokevirtual 191, 3) := by decide +kernel
theorem dX9_readsTruce_31 : decode cX9_readsTruce 31 = .ok (.ifCond .eq 43, 3) := by decide +kernel
theorem dX9_readsTruce_34 : decode cX9_readsTruce 34 = .ok (.aload_n 0, 1) := by decide +kernel
theorem dX9_readsTruce_35 : decode cX9_readsTruce 35 = .ok (.iconst 3, 1) := by decide +kernel
theorem dX9_readsTruce_36 : decode cX9_readsTruce 36 = .ok (.iconst 1, 1) := by decide +kernel
theorem dX9_readsTruce_37 : decode cX9_readsTruce 37 = .ok (.bipush 20, 2) := by decide +kernel
theorem dX9_readsTruce_39 : decode cX9_readsTruce 39 = .ok (.invokevirtual 191, 3) := by decide +kernel
theorem dX9_readsTruce_42 : decode cX9_readsTruce 42 = .ok (.ifCond .eq 32, 3) := by decide +kernel
theorem dX9_readsTruce_45 : decode cX9_readsTruce 45 = .ok (.aload_n 0, 1) := by decide +kernel
theorem dX9_readsTruce_46 : decode cX9_readsTruce 46 = .ok (.aload_n 0, 1) := by decide +kernel
theorem dX9_readsTruce_47 : decode cX9_readsTruce 47 = .ok (.aload_n 0, 1) := by decide +kernel
theorem dX9_readsTruce_48 : decode cX9_readsTruce 48 = .ok (.getfield 42, 3) := by decide +kernel
theorem dX9_readsTruce_51 : decode cX9_readsTruce 51 = .ok (.iconst 0, 1) := by decide +kernel
theorem dX9_readsTruce_52 : decode cX9_readsTruce 52 = .ok (.iaload, 1) := by decide +kernel
theorem dX9_readsTruce_53 : decode cX9_readsTruce 53 = .ok (.aload_n 0, 1) := by decide +kernel
theorem dX9_readsTruce_54 : decode cX9_readsTruce 54 = .ok (.getfield 42, 3) := by decide +kernel
theorem dX9_readsTruce_57 : decode cX9_readsTruce 57 = .ok (.iconst 1, 1) := by decide +kernel
theorem dX9_readsTruce_58 : decode cX9_readsTruce 58 = .ok (.iaload, 1) := by decide +kernel
theorem dX9_readsTruce_59 : decode cX9_readsTruce 59 = .ok (.aload_n 0, 1) := by decide +kernel
theorem dX9_readsTruce_60 : decode cX9_readsTruce 60 = .ok (.getfield 42, 3) := by decide +kernel
theorem dX9_readsTruce_63 : decode cX9_readsTruce 63 = .ok (.iconst 2, 1) := by decide +kernel
theorem dX9_readsTruce_64 : decode cX9_readsTruce 64 = .ok (.iaload, 1) := by decide +kernel
theorem dX9_readsTruce_65 : decode cX9_readsTruce 65 = .ok (.invokevirtual 241, 3) := by decide +kernel
theorem dX9_readsTruce_68 : decode cX9_readsTruce 68 = .ok (.invokevirtual 194, 3) := by decide +kernel
theorem dX9_readsTruce_71 : decode cX9_readsTruce 71 = .ok (.ifCond .ne 5, 3) := by decide +kernel
theorem dX9_readsTruce_74 : decode cX9_readsTruce 74 = .ok (.iconst 0, 1) := by decide +kernel
theorem dX9_readsTruce_75 : decode cX9_readsTruce 75 = .ok (.ireturn, 1) := by decide +kernel
theorem dX9_readsTruce_76 : decode cX9_readsTruce 76 = .ok (.aload_n 0, 1) := by decide +kernel
theorem dX9_readsTruce_77 : decode cX9_readsTruce 77 = .ok (.aload_n 0, 1) := by decide +kernel
theorem dX9_readsTruce_78 : decode cX9_readsTruce 78 = .ok (.getfield 42, 3) := by decide +kernel
theorem dX9_readsTruce_81 : decode cX9_readsTruce 81 = .ok (.iconst 0, 1) := by decide +kernel
theorem dX9_readsTruce_82 : decode cX9_readsTruce 82 = .ok (.iaload, 1) := by decide +kernel
theorem dX9_readsTruce_83 : decode cX9_readsTruce 83 = .ok (.aload_n 0, 1) := by decide +kernel
theorem dX9_readsTruce_84 : decode cX9_readsTruce 84 = .ok (.getfield 42, 3) := by decide +kernel
theorem dX9_readsTruce_87 : decode cX9_readsTruce 87 = .ok (.iconst 1, 1) := by decide +kernel
theorem dX9_readsTruce_88 : decode cX9_readsTruce 88 = .ok (.iaload, 1) := by decide +kernel
theorem dX9_readsTruce_89 : decode cX9_readsTruce 89 = .ok (.aload_n 0, 1) := by decide +kernel
theorem dX9_readsTruce_90 : decode cX9_readsTruce 90 = .ok (.getfield 42, 3) := by decide +kernel
theorem dX9_readsTruce_93 : decode cX9_readsTruce 93 = .ok (.iconst 2, 1) := by decide +kernel
theorem dX9_readsTruce_94 : decode cX9_readsTruce 94 = .ok (.iaload, 1) := by decide +kernel
theorem dX9_readsTruce_95 : decode cX9_readsTruce 95 = .ok (.aload_n 0, 1) := by decide +kernel
theorem dX9_readsTruce_96 : decode cX9_readsTruce 96 = .ok (.getfield 42, 3) := by decide +kernel
theorem dX9_readsTruce_99 : decode cX9_readsTruce 99 = .ok (.iconst 3, 1) := by decide +kernel
theorem dX9_readsTruce_100 : decode cX9_readsTruce 100 = .ok (.iaload, 1) := by decide +kernel
theorem dX9_readsTruce_101 : decode cX9_readsTruce 101 = .ok (.invokevirtual 244, 3) := by decide +kernel
theorem dX9_readsTruce_104 : decode cX9_readsTruce 104 = .ok (.pop, 1) := by decide +kernel
theorem dX9_readsTruce_105 : decode cX9_readsTruce 105 = .ok (.iconst 1, 1) := by decide +kernel
theorem dX9_readsTruce_106 : decode cX9_readsTruce 106 = .ok (.ireturn, 1) := by decide +kernel
theorem dX9_readsKitten_0 : decode cX9_readsKitten 0 = .ok (.aload_n 0, 1) := by decide +kernel
theorem dX9_readsKitten_1 : decode cX9_readsKitten 1 = .ok (.iconst 0, 1) := by decide +kernel
theorem dX9_readsKitten_2 : decode cX9_readsKitten 2 = .ok (.invokevirtual 210, 3) := by decide +kernel
theorem dX9_readsKitten_5 : decode cX9_readsKitten 5 = .ok (.ifCond .eq 14, 3) := by decide +kernel
theorem dX9_readsKitten_8 : decode cX9_readsKitten 8 = .ok (.aload_n 0, 1) := by decide +kernel
theorem dX9_readsKitten_9 : decode cX9_readsKitten 9 = .ok (.aload_n 0, 1) := by decide +kernel
theorem dX9_readsKitten_10 : decode cX9_readsKitten 10 = .ok (.invokevirtual 248, 3) := by decide +kernel
theorem dX9_readsKitten_13 : decode cX9_readsKitten 13 = .ok (.invokevirtual 194, 3) := by decide +kernel
theorem dX9_readsKitten_16 : decode cX9_readsKitten 16 = .ok (.ifCond .ne 5, 3) := by decide +kernel
theorem dX9_readsKitten_19 : decode cX9_readsKitten 19 = .ok (.iconst 0, 1) := by decide +kernel
theorem dX9_readsKitten_20 : decode cX9_readsKitten 20 = .ok (.ireturn, 1) := by decide +kernel
theorem dX9_readsKitten_21 : decode cX9_readsKitten 21 = .ok (.aload_n 0, 1) := by decide +kernel
theorem dX9_readsKitten_22 : decode cX9_readsKitten 22 = .ok (.aload_n 0, 1) := by decide +kernel
theorem dX9_readsKitten_23 : decode cX9_readsKitten 23 = .ok (.getfield 42, 3) := by decide +kernel
theorem dX9_readsKitten_26 : decode cX9_readsKitten 26 = .ok (.iconst 0, 1) := by decide +kernel
theorem dX9_readsKitten_27 : decode cX9_readsKitten 27 = .ok (.iaload, 1) := by decide +kernel
theorem dX9_readsKitten_28 : decode cX9_readsKitten 28 = .ok (.aload_n 0, 1) := by decide +kernel
theorem dX9_readsKitten_29 : decode cX9_readsKitten 29 = .ok (.getfield 42, 3) := by decide +kernel
theorem dX9_readsKitten_32 : decode cX9_readsKitten 32 = .ok (.iconst 1, 1) := by decide +kernel
theorem dX9_readsKitten_33 : decode cX9_readsKitten 33 = .ok (.iaload, 1) := by decide +kernel
theorem dX9_readsKitten_34 : decode cX9_readsKitten 34 = .ok (.invokevirtual 251, 3) := by decide +kernel
theorem dX9_readsKitten_37 : decode cX9_readsKitten 37 = .ok (.pop, 1) := by decide +kernel
theorem dX9_readsKitten_38 : decode cX9_readsKitten 38 = .ok (.iconst 1, 1) := by decide +kernel
theorem dX9_readsKitten_39 : decode cX9_readsKitten 39 = .ok (.ireturn, 1) := by decide +kernel
theorem dX9_readsVote_0 : decode cX9_readsVote 0 = .ok (.aload_n 0, 1) := by decide +kernel
theorem dX9_readsVote_1 : decode cX9_readsVote 1 = .ok (.iconst 0, 1) := by decide +kernel
theorem dX9_readsVote_2 : decode cX9_readsVote 2 = .ok (.invokevirtual 216, 3) := by decide +kernel
theorem dX9_readsVote_5 : decode cX9_readsVote 5 = .ok (.ifCond .eq 20, 3) := by decide +kernel
theorem dX9_readsVote_8 : decode cX9_readsVote 8 = .ok (.aload_n 0, 1) := by decide +kernel
theorem dX9_readsVote_9 : decode cX9_readsVote 9 = .ok (.aload_n 0, 1) := by decide +kernel
theorem dX9_readsVote_10 : decode cX9_readsVote 10 = .ok (.aload_n 0, 1) := by decide +kernel
theorem dX9_readsVote_11 : decode cX9_readsVote 11 = .ok (.getfield 42, 3) := by decide +kernel
theorem dX9_readsVote_14 : decode cX9_readsVote 14 = .ok (.iconst 0, 1) := by decide +kernel
theorem dX9_readsVote_15 : decode cX9_readsVote 15 = .ok (.iaload, 1) := by decide +kernel
theorem dX9_readsVote_16 : decode cX9_readsVote 16 = .ok (.invokevirtual 254, 3) := by decide +kernel
theorem dX9_readsVote_19 : decode cX9_readsVote 19 = .ok (.invokevirtual 194, 3) := by decide +kernel
theorem dX9_readsVote_22 : decode cX9_readsVote 22 = .ok (.ifCond .ne 5, 3) := by decide +kernel
theorem dX9_readsVote_25 : decode cX9_readsVote 25 = .ok (.iconst 0, 1) := by decide +kernel
theorem dX9_readsVote_26 : decode cX9_readsVote 26 = .ok (.ireturn, 1) := by decide +kernel
theorem dX9_readsVote_27 : decode cX9_readsVote 27 = .ok (.aload_n 0, 1) := by decide +kernel
theorem dX9_readsVote_28 : decode cX9_readsVote 28 = .ok (.aload_n 0, 1) := by decide +kernel
theorem dX9_readsVote_29 : decode cX9_readsVote 29 = .ok (.getfield 42, 3) := by decide +kernel
theorem dX9_readsVote_32 : decode cX9_readsVote 32 = .ok (.iconst 0, 1) := by decide +kernel
theorem dX9_readsVote_33 : decode cX9_readsVote 33 = .ok (.iaload, 1) := by decide +kernel
theorem dX9_readsVote_34 : decode cX9_readsVote 34 = .ok (.iload_n 1, 1) := by decide +kernel
theorem dX9_readsVote_35 : decode cX9_readsVote 35 = .ok (.invokevirtual 257, 3) := by decide +kernel
theorem dX9_readsVote_38 : decode cX9_readsVote 38 = .ok (.pop, 1) := by decide +kernel
theorem dX9_readsVote_39 : decode cX9_readsVote 39 = .ok (.iconst 1, 1) := by decide +kernel
theorem dX9_readsVote_40 : decode cX9_readsVote 40 = .ok (.ireturn, 1) := by decide +kernel
theorem dX9_readsNights_0 : decode cX9_readsNights 0 = .ok (.aload_n 0, 1) := by decide +kernel
theorem dX9_readsNights_1 : decode cX9_readsNights 1 = .ok (.iconst 0, 1) := by decide +kernel
theorem dX9_readsNights_2 : decode cX9_readsNights 2 = .ok (.iconst 1, 1) := by decide +kernel
theorem dX9_readsNights_3 : decode cX9_readsNights 3 = .ok (.bipush 30, 2) := by decide +kernel
theorem dX9_readsNights_5 : decode cX9_readsNights 5 = .ok (.invokevirtual 191, 3) := by decide +kernel
theorem dX9_readsNights_8 : decode cX9_readsNights 8 = .ok (.ifCond .eq 34, 3) := by decide +kernel
theorem dX9_readsNights_11 : decode cX9_readsNights 11 = .ok (.aload_n 0, 1) := by decide +kernel
theorem dX9_readsNights_12 : decode cX9_readsNights 12 = .ok (.aload_n 0, 1) := by decide +kernel
theorem dX9_readsNights_13 : decode cX9_readsNights 13 = .ok (.getfield 7, 3) := by decide +kernel
theorem dX9_readsNights_16 : decode cX9_readsNights 16 = .ok (.iconst 3, 1) := by decide +kernel
theorem dX9_readsNights_17 : decode cX9_readsNights 17 = .ok (.iaload, 1) := by decide +kernel
theorem dX9_readsNights_18 : decode cX9_readsNights 18 = .ok (.aload_n 0, 1) := by decide +kernel
theorem dX9_readsNights_19 : decode cX9_readsNights 19 = .ok (.getfield 42, 3) := by decide +kernel
theorem dX9_readsNights_22 : decode cX9_readsNights 22 = .ok (.iconst 0, 1) := by decide +kernel
theorem dX9_readsNights_23 : decode cX9_readsNights 23 = .ok (.iaload, 1) := by decide +kernel
theorem dX9_readsNights_24 : decode cX9_readsNights 24 = .ok (.iadd, 1) := by decide +kernel
theorem dX9_readsNights_25 : decode cX9_readsNights 25 = .ok (.sipush 999, 3) := by decide +kernel
theorem dX9_readsNights_28 : decode cX9_readsNights 28 = .ok (.if_icmp .gt 7, 3) := by decide +kernel
theorem dX9_readsNights_31 : decode cX9_readsNights 31 = .ok (.iconst 1, 1) := by decide +kernel
theorem dX9_readsNights_32 : decode cX9_readsNights 32 = .ok (.goto 4, 3) := by decide +kernel
theorem dX9_readsNights_35 : decode cX9_readsNights 35 = .ok (.iconst 0, 1) := by decide +kernel
theorem dX9_readsNights_36 : decode cX9_readsNights 36 = .ok (.invokevirtual 194, 3) := by decide +kernel
theorem dX9_readsNights_39 : decode cX9_readsNights 39 = .ok (.ifCond .ne 5, 3) := by decide +kernel
theorem dX9_readsNights_42 : decode cX9_readsNights 42 = .ok (.iconst 0, 1) := by decide +kernel
theorem dX9_readsNights_43 : decode cX9_readsNights 43 = .ok (.ireturn, 1) := by decide +kernel
theorem dX9_readsNights_44 : decode cX9_readsNights 44 = .ok (.aload_n 0, 1) := by decide +kernel
theorem dX9_readsNights_45 : decode cX9_readsNights 45 = .ok (.aload_n 0, 1) := by decide +kernel
theorem dX9_readsNights_46 : decode cX9_readsNights 46 = .ok (.getfield 42, 3) := by decide +kernel
theorem dX9_readsNights_49 : decode cX9_readsNights 49 = .ok (.iconst 0, 1) := by decide +kernel
theorem dX9_readsNights_50 : decode cX9_readsNights 50 = .ok (.iaload, 1) := by decide +kernel
theorem dX9_readsNights_51 : decode cX9_readsNights 51 = .ok (.invokevirtual 261, 3) := by decide +kernel
theorem dX9_readsNights_54 : decode cX9_readsNights 54 = .ok (.pop, 1) := by decide +kernel
theorem dX9_readsNights_55 : decode cX9_readsNights 55 = .ok (.iconst 1, 1) := by decide +kernel
theorem dX9_readsNights_56 : decode cX9_readsNights 56 = .ok (.ireturn, 1) := by decide +kernel
theorem dX9_readsRepeat_0 : decode cX9_readsRepeat 0 = .ok (.aload_n 0, 1) := by decide +kernel
theorem dX9_readsRepeat_1 : decode cX9_readsRepeat 1 = .ok (.iconst 0, 1) := by decide +kernel
theorem dX9_readsRepeat_2 : decode cX9_readsRepeat 2 = .ok (.iconst 1, 1) := by decide +kernel
theorem dX9_readsRepeat_3 : decode cX9_readsRepeat 3 = .ok (.bipush 20, 2) := by decide +kernel
theorem dX9_readsRepeat_5 : decode cX9_readsRepeat 5 = .ok (.invokevirtual 191, 3) := by decide +kernel
theorem dX9_readsRepeat_8 : decode cX9_readsRepeat 8 = .ok (.ifCond .eq 11, 3) := by decide +kernel
theorem dX9_readsRepeat_11 : decode cX9_readsRepeat 11 = .ok (.aload_n 0, 1) := by decide +kernel
theorem dX9_readsRepeat_12 : decode cX9_readsRepeat 12 = .ok (.iconst 4, 1) := by decide +kernel
theorem dX9_readsRepeat_13 : decode cX9_readsRepeat 13 = .ok (.invokevirtual 185, 3) := by decide +kernel
theorem dX9_readsRepeat_16 : decode cX9_readsRepeat 16 = .ok (.ifCond .ne 5, 3) := by decide +kernel
theorem dX9_readsRepeat_19 : decode cX9_readsRepeat 19 = .ok (.iconst 0, 1) := by decide +kernel
theorem dX9_readsRepeat_20 : decode cX9_readsRepeat 20 = .ok (.ireturn, 1) := by decide +kernel
theorem dX9_readsRepeat_21 : decode cX9_readsRepeat 21 = .ok (.aload_n 0, 1) := by decide +kernel
theorem dX9_readsRepeat_22 : decode cX9_readsRepeat 22 = .ok (.getfield 42, 3) := by decide +kernel
theorem dX9_readsRepeat_25 : decode cX9_readsRepeat 25 = .ok (.iconst 0, 1) := by decide +kernel
theorem dX9_readsRepeat_26 : decode cX9_readsRepeat 26 = .ok (.iaload, 1) := by decide +kernel
theorem dX9_readsRepeat_27 : decode cX9_readsRepeat 27 = .ok (.istore_n 2, 1) := by decide +kernel
theorem dX9_readsRepeat_28 : decode cX9_readsRepeat 28 = .ok (.aload_n 0, 1) := by decide +kernel
theorem dX9_readsRepeat_29 : decode cX9_readsRepeat 29 = .ok (.getfield 164, 3) := by decide +kernel
theorem dX9_readsRepeat_32 : decode cX9_readsRepeat 32 = .ok (.istore_n 3, 1) := by decide +kernel
theorem dX9_readsRepeat_33 : decode cX9_readsRepeat 33 = .ok (.iconst 0, 1) := by decide +kernel
theorem dX9_readsRepeat_34 : decode cX9_readsRepeat 34 = .ok (.istore 4, 2) := by decide +kernel
theorem dX9_readsRepeat_36 : decode cX9_readsRepeat 36 = .ok (.iload 4, 2) := by decide +kernel
theorem dX9_readsRepeat_38 : decode cX9_readsRepeat 38 = .ok (.iload_n 2, 1) := by decide +kernel
theorem dX9_readsRepeat_39 : decode cX9_readsRepeat 39 = .ok (.if_icmp .ge 45, 3) := by decide +kernel
theorem dX9_readsRepeat_42 : decode cX9_readsRepeat 42 = .ok (.aload_n 0, 1) := by decide +kernel
theorem dX9_readsRepeat_43 : decode cX9_readsRepeat 43 = .ok (.iload_n 3, 1) := by decide +kernel
theorem dX9_readsRepeat_44 : decode cX9_readsRepeat 44 = .ok (.putfield 164, 3) := by decide +kernel
theorem dX9_readsRepeat_47 : decode cX9_readsRepeat 47 = .ok (.aload_n 0, 1) := by decide +kernel
theorem dX9_readsRepeat_48 : decode cX9_readsRepeat 48 = .ok (.invokevirtual 188, 3) := by decide +kernel
theorem dX9_readsRepeat_51 : decode cX9_readsRepeat 51 = .ok (.aload_n 0, 1) := by decide +kernel
theorem dX9_readsRepeat_52 : decode cX9_readsRepeat 52 = .ok (.getfield 170, 3) := by decide +kernel
theorem dX9_readsRepeat_55 : decode cX9_readsRepeat 55 = .ok (.iconst 5, 1) := by decide +kernel
theorem dX9_readsRepeat_56 : decode cX9_readsRepeat 56 = .ok (.if_icmp .eq 22, 3) := by decide +kernel
theorem dX9_readsRepeat_59 : decode cX9_readsRepeat 59 = .ok (.aload_n 0, 1) := by decide +kernel
theorem dX9_readsRepeat_60 : decode cX9_readsRepeat 60 = .ok (.iload_n 1, 1) := by decide +kernel
theorem dX9_readsRepeat_61 : decode cX9_readsRepeat 61 = .ok (.iconst 1, 1) := by decide +kernel
theorem dX9_readsRepeat_62 : decode cX9_readsRepeat 62 = .ok (.iadd, 1) := by decide +kernel
theorem dX9_readsRepeat_63 : decode cX9_readsRepeat 63 = .ok (.invokevirtual 264, 3) := by decide +kernel
theorem dX9_readsRepeat_66 : decode cX9_readsRepeat 66 = .ok (.ifCond .ne 5, 3) := by decide +kernel
theorem dX9_readsRepeat_69 : decode cX9_readsRepeat 69 = .ok (.iconst 0, 1) := by decide +kernel
theorem dX9_readsRepeat_70 : decode cX9_readsRepeat 70 = .ok (.ireturn, 1) := by decide +kernel
theorem dX9_readsRepeat_71 : decode cX9_readsRepeat 71 = .ok (.aload_n 0, 1) := by decide +kernel
theorem dX9_readsRepeat_72 : decode cX9_readsRepeat 72 = .ok (.invokevirtual 188, 3) := by decide +kernel
theorem dX9_readsRepeat_75 : decode cX9_readsRepeat 75 = .ok (.goto (-24), 3) := by decide +kernel
theorem dX9_readsRepeat_78 : decode cX9_readsRepeat 78 = .ok (.iinc 4 1, 3) := by decide +kernel
theorem dX9_readsRepeat_81 : decode cX9_readsRepeat 81 = .ok (.goto (-45), 3) := by decide +kernel
theorem dX9_readsRepeat_84 : decode cX9_readsRepeat 84 = .ok (.aload_n 0, 1) := by decide +kernel
theorem dX9_readsRepeat_85 : decode cX9_readsRepeat 85 = .ok (.invokevirtual 188, 3) := by decide +kernel
theorem dX9_readsRepeat_88 : decode cX9_readsRepeat 88 = .ok (.aload_n 0, 1) := by decide +kernel
theorem dX9_readsRepeat_89 : decode cX9_readsRepeat 89 = .ok (.iconst 1, 1) := by decide +kernel
theorem dX9_readsRepeat_90 : decode cX9_readsRepeat 90 = .ok (.invokevirtual 185, 3) := by decide +kernel
theorem dX9_readsRepeat_93 : decode cX9_readsRepeat 93 = .ok (.ireturn, 1) := by decide +kernel
theorem dX9_wordAhead_0 : decode cX9_wordAhead 0 = .ok (.aload_n 0, 1) := by decide +kernel
theorem dX9_wordAhead_1 : decode cX9_wordAhead 1 = .ok (.ldc_w 267, 3) := by decide +kernel
theorem dX9_wordAhead_4 : decode cX9_wordAhead 4 = .ok (.invokevirtual 269, 3) := by decide +kernel
theorem dX9_wordAhead_7 : decode cX9_wordAhead 7 = .ok (.ifCond .eq 7, 3) := by decide +kernel
theorem dX9_wordAhead_10 : decode cX9_wordAhead 10 = .ok (.iconst 0, 1) := by decide +kernel
theorem dX9_wordAhead_11 : decode cX9_wordAhead 11 = .ok (.goto 77, 3) := by decide +kernel
theorem dX9_wordAhead_14 : decode cX9_wordAhead 14 = .ok (.aload_n 0, 1) := by decide +kernel
theorem dX9_wordAhead_15 : decode cX9_wordAhead 15 = .ok (.ldc_w 273, 3) := by decide +kernel
theorem dX9_wordAhead_18 : decode cX9_wordAhead 18 = .ok (.invokevirtual 269, 3) := by decide +kernel
theorem dX9_wordAhead_21 : decode cX9_wordAhead 21 = .ok (.ifCond .eq 7, 3) := by decide +kernel
theorem dX9_wordAhead_24 : decode cX9_wordAhead 24 = .ok (.iconst 1, 1) := by decide +kernel
theorem dX9_wordAhead_25 : decode cX9_wordAhead 25 = .ok (.goto 63, 3) := by decide +kernel
theorem dX9_wordAhead_28 : decode cX9_wordAhead 28 = .ok (.aload_n 0, 1) := by decide +kernel
theorem dX9_wordAhead_29 : decode cX9_wordAhead 29 = .ok (.ldc_w 274, 3) := by decide +kernel
theorem dX9_wordAhead_32 : decode cX9_wordAhead 32 = .ok (.invokevirtual 269, 3) := by decide +kernel
theorem dX9_wordAhead_35 : decode cX9_wordAhead 35 = .ok (.ifCond .eq 7, 3) := by decide +kernel
theorem dX9_wordAhead_38 : decode cX9_wordAhead 38 = .ok (.iconst 2, 1) := by decide +kernel
theorem dX9_wordAhead_39 : decode cX9_wordAhead 39 = .ok (.goto 49, 3) := by decide +kernel
theorem dX9_wordAhead_42 : decode cX9_wordAhead 42 = .ok (.aload_n 0, 1) := by decide +kernel
theorem dX9_wordAhead_43 : decode cX9_wordAhead 43 = .ok (.ldc_w 276, 3) := by decide +kernel
theorem dX9_wordAhead_46 : decode cX9_wordAhead 46 = .ok (.invokevirtual 269, 3) := by decide +kernel
theorem dX9_wordAhead_49 : decode cX9_wordAhead 49 = .ok (.ifCond .eq 7, 3) := by decide +kernel
theorem dX9_wordAhead_52 : decode cX9_wordAhead 52 = .ok (.iconst 3, 1) := by decide +kernel
theorem dX9_wordAhead_53 : decode cX9_wordAhead 53 = .ok (.goto 35, 3) := by decide +kernel
theorem dX9_wordAhead_56 : decode cX9_wordAhead 56 = .ok (.aload_n 0, 1) := by decide +kernel
theorem dX9_wordAhead_57 : decode cX9_wordAhead 57 = .ok (.ldc_w 278, 3) := by decide +kernel
theorem dX9_wordAhead_60 : decode cX9_wordAhead 60 = .ok (.invokevirtual 269, 3) := by decide +kernel
theorem dX9_wordAhead_63 : decode cX9_wordAhead 63 = .ok (.ifCond .eq 7, 3) := by decide +kernel
theorem dX9_wordAhead_66 : decode cX9_wordAhead 66 = .ok (.iconst 4, 1) := by decide +kernel
theorem dX9_wordAhead_67 : decode cX9_wordAhead 67 = .ok (.goto 21, 3) := by decide +kernel
theorem dX9_wordAhead_70 : decode cX9_wordAhead 70 = .ok (.aload_n 0, 1) := by decide +kernel
theorem dX9_wordAhead_71 : decode cX9_wordAhead 71 = .ok (.ldc_w 280, 3) := by decide +kernel
theorem dX9_wordAhead_74 : decode cX9_wordAhead 74 = .ok (.invokevirtual 269, 3) := by decide +kernel
theorem dX9_wordAhead_77 : decode cX9_wordAhead 77 = .ok (.ifCond .eq 7, 3) := by decide +kernel
theorem dX9_wordAhead_80 : decode cX9_wordAhead 80 = .ok (.iconst 5, 1) := by decide +kernel
theorem dX9_wordAhead_81 : decode cX9_wordAhead 81 = .ok (.goto 7, 3) := by decide +kernel
theorem dX9_wordAhead_84 : decode cX9_wordAhead 84 = .ok (.aload_n 0, 1) := by decide +kernel
theorem dX9_wordAhead_85 : decode cX9_wordAhead 85 = .ok (.invokevirtual 282, 3) := by decide +kernel
theorem dX9_wordAhead_88 : decode cX9_wordAhead 88 = .ok (.ireturn, 1) := by decide +kernel
theorem dX9_laterWord_0 : decode cX9_laterWord 0 = .ok (.aload_n 0, 1) := by decide +kernel
theorem dX9_laterWord_1 : decode cX9_laterWord 1 = .ok (.ldc_w 285, 3) := by decide +kernel
theorem dX9_laterWord_4 : decode cX9_laterWord 4 = .ok (.invokevirtual 269, 3) := by decide +kernel
theorem dX9_laterWord_7 : decode cX9_laterWord 7 = .ok (.ifCond .eq 8, 3) := by decide +kernel
theorem dX9_laterWord_10 : decode cX9_laterWord 10 = .ok (.bipush 6, 2) := by decide +kernel
theorem dX9_laterWord_12 : decode cX9_laterWord 12 = .ok (.goto 94, 3) := by decide +kernel
theorem dX9_laterWord_15 : decode cX9_laterWord 15 = .ok (.aload_n 0, 1) := by decide +kernel
theorem dX9_laterWord_16 : decode cX9_laterWord 16 = .ok (.ldc_w 287, 3) := by decide +kernel
theorem dX9_laterWord_19 : decode cX9_laterWord 19 = .ok (.invokevirtual 269, 3) := by decide +kernel
theorem dX9_laterWord_22 : decode cX9_laterWord 22 = .ok (.ifCond .eq 8, 3) := by decide +kernel
theorem dX9_laterWord_25 : decode cX9_laterWord 25 = .ok (.bipush 7, 2) := by decide +kernel
theorem dX9_laterWord_27 : decode cX9_laterWord 27 = .ok (.goto 79, 3) := by decide +kernel
theorem dX9_laterWord_30 : decode cX9_laterWord 30 = .ok (.aload_n 0, 1) := by decide +kernel
theorem dX9_laterWord_31 : decode cX9_laterWord 31 = .ok (.ldc_w 289, 3) := by decide +kernel
theorem dX9_laterWord_34 : decode cX9_laterWord 34 = .ok (.invokevirtual 269, 3) := by decide +kernel
theorem dX9_laterWord_37 : decode cX9_laterWord 37 = .ok (.ifCond .eq 8, 3) := by decide +kernel
theorem dX9_laterWord_40 : decode cX9_laterWord 40 = .ok (.bipush 8, 2) := by decide +kernel
theorem dX9_laterWord_42 : decode cX9_laterWord 42 = .ok (.goto 64, 3) := by decide +kernel
theorem dX9_laterWord_45 : decode cX9_laterWord 45 = .ok (.aload_n 0, 1) := by decide +kernel
theorem dX9_laterWord_46 : decode cX9_laterWord 46 = .ok (.ldc_w 291, 3) := by decide +kernel
theorem dX9_laterWord_49 : decode cX9_laterWord 49 = .ok (.invokevirtual 269, 3) := by decide +kernel
theorem dX9_laterWord_52 : decode cX9_laterWord 52 = .ok (.ifCond .eq 8, 3) := by decide +kernel
theorem dX9_laterWord_55 : decode cX9_laterWord 55 = .ok (.bipush 9, 2) := by decide +kernel
theorem dX9_laterWord_57 : decode cX9_laterWord 57 = .ok (.goto 49, 3) := by decide +kernel
theorem dX9_laterWord_60 : decode cX9_laterWord 60 = .ok (.aload_n 0, 1) := by decide +kernel
theorem dX9_laterWord_61 : decode cX9_laterWord 61 = .ok (.ldc_w 293, 3) := by decide +kernel
theorem dX9_laterWord_64 : decode cX9_laterWord 64 = .ok (.invokevirtual 269, 3) := by decide +kernel
theorem dX9_laterWord_67 : decode cX9_laterWord 67 = .ok (.ifCond .eq 8, 3) := by decide +kernel
theorem dX9_laterWord_70 : decode cX9_laterWord 70 = .ok (.bipush 10, 2) := by decide +kernel
theorem dX9_laterWord_72 : decode cX9_laterWord 72 = .ok (.goto 34, 3) := by decide +kernel
theorem dX9_laterWord_75 : decode cX9_laterWord 75 = .ok (.aload_n 0, 1) := by decide +kernel
theorem dX9_laterWord_76 : decode cX9_laterWord 76 = .ok (.ldc_w 295, 3) := by decide +kernel
theorem dX9_laterWord_79 : decode cX9_laterWord 79 = .ok (.invokevirtual 269, 3) := by decide +kernel
theorem dX9_laterWord_82 : decode cX9_laterWord 82 = .ok (.ifCond .eq 8, 3) := by decide +kernel
theorem dX9_laterWord_85 : decode cX9_laterWord 85 = .ok (.bipush 11, 2) := by decide +kernel
theorem dX9_laterWord_87 : decode cX9_laterWord 87 = .ok (.goto 19, 3) := by decide +kernel
theorem dX9_laterWord_90 : decode cX9_laterWord 90 = .ok (.aload_n 0, 1) := by decide +kernel
theorem dX9_laterWord_91 : decode cX9_laterWord 91 = .ok (.ldc_w 297, 3) := by decide +kernel
theorem dX9_laterWord_94 : decode cX9_laterWord 94 = .ok (.invokevirtual 269, 3) := by decide +kernel
theorem dX9_laterWord_97 : decode cX9_laterWord 97 = .ok (.ifCond .eq 8, 3) := by decide +kernel
theorem dX9_laterWord_100 : decode cX9_laterWord 100 = .ok (.bipush 12, 2) := by decide +kernel
theorem dX9_laterWord_102 : decode cX9_laterWord 102 = .ok (.goto 4, 3) := by decide +kernel
theorem dX9_laterWord_105 : decode cX9_laterWord 105 = .ok (.iconst (-1), 1) := by decide +kernel
theorem dX9_laterWord_106 : decode cX9_laterWord 106 = .ok (.ireturn, 1) := by decide +kernel
theorem dX9_readsCommand_0 : decode cX9_readsCommand 0 = .ok (.aload_n 0, 1) := by decide +kernel
theorem dX9_readsCommand_1 : decode cX9_readsCommand 1 = .ok (.invokevirtual 299, 3) := by decide +kernel
theorem dX9_readsCommand_4 : decode cX9_readsCommand 4 = .ok (.istore_n 2, 1) := by decide +kernel
theorem dX9_readsCommand_5 : decode cX9_readsCommand 5 = .ok (.iload_n 2, 1) := by decide +kernel
theorem dX9_readsCommand_6 : decode cX9_readsCommand 6 = .ok (.iconst (-1), 1) := by decide +kernel
theorem dX9_readsCommand_7 : decode cX9_readsCommand 7 = .ok (.if_icmp .ne 9, 3) := by decide +kernel
theorem dX9_readsCommand_10 : decode cX9_readsCommand 10 = .ok (.aload_n 0, 1) := by decide +kernel
theorem dX9_readsCommand_11 : decode cX9_readsCommand 11 = .ok (.iconst 1, 1) := by decide +kernel
theorem dX9_readsCommand_12 : decode cX9_readsCommand 12 = .ok (.invokevirtual 182, 3) := by decide +kernel
theorem dX9_readsCommand_15 : decode cX9_readsCommand 15 = .ok (.ireturn, 1) := by decide +kernel
theorem dX9_readsCommand_16 : decode cX9_readsCommand 16 = .ok (.iload_n 2, 1) := by decide +kernel
theorem dX9_readsCommand_17 : decode cX9_readsCommand 17 = .ok (.bipush 12, 2) := by decide +kernel
theorem dX9_readsCommand_19 : decode cX9_readsCommand 19 = .ok (.if_icmp .ne 24, 3) := by decide +kernel
theorem dX9_readsCommand_22 : decode cX9_readsCommand 22 = .ok (.iload_n 1, 1) := by decide +kernel
theorem dX9_readsCommand_23 : decode cX9_readsCommand 23 = .ok (.iconst 2, 1) := by decide +kernel
theorem dX9_readsCommand_24 : decode cX9_readsCommand 24 = .ok (.if_icmp .ne 9, 3) := by decide +kernel
theorem dX9_readsCommand_27 : decode cX9_readsCommand 27 = .ok (.aload_n 0, 1) := by decide +kernel
theorem dX9_readsCommand_28 : decode cX9_readsCommand 28 = .ok (.iconst 4, 1) := by decide +kernel
theorem dX9_readsCommand_29 : decode cX9_readsCommand 29 = .ok (.invokevirtual 182, 3) := by decide +kernel
theorem dX9_readsCommand_32 : decode cX9_readsCommand 32 = .ok (.ireturn, 1) := by decide +kernel
theorem dX9_readsCommand_33 : decode cX9_readsCommand 33 = .ok (.aload_n 0, 1) := by decide +kernel
theorem dX9_readsCommand_34 : decode cX9_readsCommand 34 = .ok (.invokevirtual 188, 3) := by decide +kernel
theorem dX9_readsCommand_37 : decode cX9_readsCommand 37 = .ok (.aload_n 0, 1) := by decide +kernel
theorem dX9_readsCommand_38 : decode cX9_readsCommand 38 = .ok (.iload_n 1, 1) := by decide +kernel
theorem dX9_readsCommand_39 : decode cX9_readsCommand 39 = .ok (.invokevirtual 302, 3) := by decide +kernel
theorem dX9_readsCommand_42 : decode cX9_readsCommand 42 = .ok (.ireturn, 1) := by decide +kernel
theorem dX9_readsCommand_43 : decode cX9_readsCommand 43 = .ok (.aload_n 0, 1) := by decide +kernel
theorem dX9_readsCommand_44 : decode cX9_readsCommand 44 = .ok (.getfield 305, 3) := by decide +kernel
theorem dX9_readsCommand_47 : decode cX9_readsCommand 47 = .ok (.sipush 200, 3) := by decide +kernel
theorem dX9_readsCommand_50 : decode cX9_readsCommand 50 = .ok (.if_icmp .ne 9, 3) := by decide +kernel
theorem dX9_readsCommand_53 : decode cX9_readsCommand 53 = .ok (.aload_n 0, 1) := by decide +kernel
theorem dX9_readsCommand_54 : decode cX9_readsCommand 54 = .ok (.iconst 5, 1) := by decide +kernel
theorem dX9_readsCommand_55 : decode cX9_readsCommand 55 = .ok (.invokevirtual 182, 3) := by decide +kernel
theorem dX9_readsCommand_58 : decode cX9_readsCommand 58 = .ok (.ireturn, 1) := by decide +kernel
theorem dX9_readsCommand_59 : decode cX9_readsCommand 59 = .ok (.aload_n 0, 1) := by decide +kernel
theorem dX9_readsCommand_60 : decode cX9_readsCommand 60 = .ok (.dup, 1) := by decide +kernel
theorem dX9_readsCommand_61 : decode cX9_readsCommand 61 = .ok (.getfield 305, 3) := by decide +kernel
theorem dX9_readsCommand_64 : decode cX9_readsCommand 64 = .ok (.iconst 1, 1) := by decide +kernel
theorem dX9_readsCommand_65 : decode cX9_readsCommand 65 = .ok (.iadd, 1) := by decide +kernel
theorem dX9_readsCommand_66 : decode cX9_readsCommand 66 = .ok (.putfield 305, 3) := by decide +kernel
theorem dX9_readsCommand_69 : decode cX9_readsCommand 69 = .ok (.aload_n 0, 1) := by decide +kernel
theorem dX9_readsCommand_70 : decode cX9_readsCommand 70 = .ok (.invokevirtual 188, 3) := by decide +kernel
theorem dX9_readsCommand_73 : decode cX9_readsCommand 73 = .ok (.aload_n 0, 1) := by decide +kernel
theorem dX9_readsCommand_74 : decode cX9_readsCommand 74 = .ok (.iload_n 2, 1) := by decide +kernel
theorem dX9_readsCommand_75 : decode cX9_readsCommand 75 = .ok (.invokevirtual 308, 3) := by decide +kernel
theorem dX9_readsCommand_78 : decode cX9_readsCommand 78 = .ok (.ireturn, 1) := by decide +kernel
theorem dX9_readsWord_0 : decode cX9_readsWord 0 = .ok (.iload_n 1, 1) := by decide +kernel
theorem dX9_readsWord_1 : decode cX9_readsWord 1 = .ok (.tableswitch 116 0 10 #[59, 64, 69, 74, 79, 84, 89, 94, 99, 104, 110], 59) := by decide +kernel
theorem dX9_readsWord_60 : decode cX9_readsWord 60 = .ok (.aload_n 0, 1) := by decide +kernel
theorem dX9_readsWord_61 : decode cX9_readsWord 61 = .ok (.invokevirtual 311, 3) := by decide +kernel
theorem dX9_readsWord_64 : decode cX9_readsWord 64 = .ok (.ireturn, 1) := by decide +kernel
theorem dX9_readsWord_65 : decode cX9_readsWord 65 = .ok (.aload_n 0, 1) := by decide +kernel
theorem dX9_readsWord_66 : decode cX9_readsWord 66 = .ok (.invokevirtual 314, 3) := by decide +kernel
theorem dX9_readsWord_69 : decode cX9_readsWord 69 = .ok (.ireturn, 1) := by decide +kernel
theorem dX9_readsWord_70 : decode cX9_readsWord 70 = .ok (.aload_n 0, 1) := by decide +kernel
theorem dX9_readsWord_71 : decode cX9_readsWord 71 = .ok (.invokevirtual 317, 3) := by decide +kernel
theorem dX9_readsWord_74 : decode cX9_readsWord 74 = .ok (.ireturn, 1) := by decide +kernel
theorem dX9_readsWord_75 : decode cX9_readsWord 75 = .ok (.aload_n 0, 1) := by decide +kernel
theorem dX9_readsWord_76 : decode cX9_readsWord 76 = .ok (.invokevirtual 320, 3) := by decide +kernel
theorem dX9_readsWord_79 : decode cX9_readsWord 79 = .ok (.ireturn, 1) := by decide +kernel
theorem dX9_readsWord_80 : decode cX9_readsWord 80 = .ok (.aload_n 0, 1) := by decide +kernel
theorem dX9_readsWord_81 : decode cX9_readsWord 81 = .ok (.invokevirtual 323, 3) := by decide +kernel
theorem dX9_readsWord_84 : decode cX9_readsWord 84 = .ok (.ireturn, 1) := by decide +kernel
theorem dX9_readsWord_85 : decode cX9_readsWord 85 = .ok (.aload_n 0, 1) := by decide +kernel
theorem dX9_readsWord_86 : decode cX9_readsWord 86 = .ok (.invokevirtual 326, 3) := by decide +kernel
theorem dX9_readsWord_89 : decode cX9_readsWord 89 = .ok (.ireturn, 1) := by decide +kernel
theorem dX9_readsWord_90 : decode cX9_readsWord 90 = .ok (.aload_n 0, 1) := by decide +kernel
theorem dX9_readsWord_91 : decode cX9_readsWord 91 = .ok (.invokevirtual 329, 3) := by decide +kernel
theorem dX9_readsWord_94 : decode cX9_readsWord 94 = .ok (.ireturn, 1) := by decide +kernel
theorem dX9_readsWord_95 : decode cX9_readsWord 95 = .ok (.aload_n 0, 1) := by decide +kernel
theorem dX9_readsWord_96 : decode cX9_readsWord 96 = .ok (.invokevirtual 332, 3) := by decide +kernel
theorem dX9_readsWord_99 : decode cX9_readsWord 99 = .ok (.ireturn, 1) := by decide +kernel
theorem dX9_readsWord_100 : decode cX9_readsWord 100 = .ok (.aload_n 0, 1) := by decide +kernel
theorem dX9_readsWord_101 : decode cX9_readsWord 101 = .ok (.invokevirtual 335, 3) := by decide +kernel
theorem dX9_readsWord_104 : decode cX9_readsWord 104 = .ok (.ireturn, 1) := by decide +kernel
theorem dX9_readsWord_105 : decode cX9_readsWord 105 = .ok (.aload_n 0, 1) := by decide +kernel
theorem dX9_readsWord_106 : decode cX9_readsWord 106 = .ok (.iconst 1, 1) := by decide +kernel
theorem dX9_readsWord_107 : decode cX9_readsWord 107 = .ok (.invokevirtual 338, 3) := by decide +kernel
theorem dX9_readsWord_110 : decode cX9_readsWord 110 = .ok (.ireturn, 1) := by decide +kernel
theorem dX9_readsWord_111 : decode cX9_readsWord 111 = .ok (.aload_n 0, 1) := by decide +kernel
theorem dX9_readsWord_112 : decode cX9_readsWord 112 = .ok (.iconst 0, 1) := by decide +kernel
theorem dX9_readsWord_113 : decode cX9_readsWord 113 = .ok (.invokevirtual 338, 3) := by decide +kernel
theorem dX9_readsWord_116 : decode cX9_readsWord 116 = .ok (.ireturn, 1) := by decide +kernel
theorem dX9_readsWord_117 : decode cX9_readsWord 117 = .ok (.aload_n 0, 1) := by decide +kernel
theorem dX9_readsWord_118 : decode cX9_readsWord 118 = .ok (.invokevirtual 341, 3) := by decide +kernel
theorem dX9_readsWord_121 : decode cX9_readsWord 121 = .ok (.ireturn, 1) := by decide +kernel
theorem dX9_readsAll_0 : decode cX9_readsAll 0 = .ok (.aload_n 0, 1) := by decide +kernel
theorem dX9_readsAll_1 : decode cX9_readsAll 1 = .ok (.ldc_w 344, 3) := by decide +kernel
theorem dX9_readsAll_4 : decode cX9_readsAll 4 = .ok (.invokevirtual 269, 3) := by decide +kernel
theorem dX9_readsAll_7 : decode cX9_readsAll 7 = .ok (.ifCond .ne 9, 3) := by decide +kernel
theorem dX9_readsAll_10 : decode cX9_readsAll 10 = .ok (.aload_n 0, 1) := by decide +kernel
theorem dX9_readsAll_11 : decode cX9_readsAll 11 = .ok (.iconst 1, 1) := by decide +kernel
theorem dX9_readsAll_12 : decode cX9_readsAll 12 = .ok (.invokevirtual 182, 3) := by decide +kernel
theorem dX9_readsAll_15 : decode cX9_readsAll 15 = .ok (.ireturn, 1) := by decide +kernel
theorem dX9_readsAll_16 : decode cX9_readsAll 16 = .ok (.aload_n 0, 1) := by decide +kernel
theorem dX9_readsAll_17 : decode cX9_readsAll 17 = .ok (.invokevirtual 188, 3) := by decide +kernel
theorem dX9_readsAll_20 : decode cX9_readsAll 20 = .ok (.aload_n 0, 1) := by decide +kernel
theorem dX9_readsAll_21 : decode cX9_readsAll 21 = .ok (.iconst 1, 1) := by decide +kernel
theorem dX9_readsAll_22 : decode cX9_readsAll 22 = .ok (.invokevirtual 185, 3) := by decide +kernel
theorem dX9_readsAll_25 : decode cX9_readsAll 25 = .ok (.ifCond .ne 5, 3) := by decide +kernel
theorem dX9_readsAll_28 : decode cX9_readsAll 28 = .ok (.iconst 0, 1) := by decide +kernel
theorem dX9_readsAll_29 : decode cX9_readsAll 29 = .ok (.ireturn, 1) := by decide +kernel
theorem dX9_readsAll_30 : decode cX9_readsAll 30 = .ok (.aload_n 0, 1) := by decide +kernel
theorem dX9_readsAll_31 : decode cX9_readsAll 31 = .ok (.invokevirtual 188, 3) := by decide +kernel
theorem dX9_readsAll_34 : decode cX9_readsAll 34 = .ok (.aload_n 0, 1) := by decide +kernel
theorem dX9_readsAll_35 : decode cX9_readsAll 35 = .ok (.getfield 170, 3) := by decide +kernel
theorem dX9_readsAll_38 : decode cX9_readsAll 38 = .ok (.ifCond .eq 20, 3) := by decide +kernel
theorem dX9_readsAll_41 : decode cX9_readsAll 41 = .ok (.aload_n 0, 1) := by decide +kernel
theorem dX9_readsAll_42 : decode cX9_readsAll 42 = .ok (.iconst 0, 1) := by decide +kernel
theorem dX9_readsAll_43 : decode cX9_readsAll 43 = .ok (.invokevirtual 264, 3) := by decide +kernel
theorem dX9_readsAll_46 : decode cX9_readsAll 46 = .ok (.ifCond .ne 5, 3) := by decide +kernel
theorem dX9_readsAll_49 : decode cX9_readsAll 49 = .ok (.iconst 0, 1) := by decide +kernel
theorem dX9_readsAll_50 : decode cX9_readsAll 50 = .ok (.ireturn, 1) := by decide +kernel
theorem dX9_readsAll_51 : decode cX9_readsAll 51 = .ok (.aload_n 0, 1) := by decide +kernel
theorem dX9_readsAll_52 : decode cX9_readsAll 52 = .ok (.invokevirtual 188, 3) := by decide +kernel
theorem dX9_readsAll_55 : decode cX9_readsAll 55 = .ok (.goto (-21), 3) := by decide +kernel
theorem dX9_readsAll_58 : decode cX9_readsAll 58 = .ok (.iconst 1, 1) := by decide +kernel
theorem dX9_readsAll_59 : decode cX9_readsAll 59 = .ok (.ireturn, 1) := by decide +kernel
theorem dX9_parses_0 : decode cX9_parses 0 = .ok (.iconst 0, 1) := by decide +kernel
theorem dX9_parses_1 : decode cX9_parses 1 = .ok (.istore_n 1, 1) := by decide +kernel
theorem dX9_parses_2 : decode cX9_parses 2 = .ok (.iload_n 1, 1) := by decide +kernel
theorem dX9_parses_3 : decode cX9_parses 3 = .ok (.sipush 186, 3) := by decide +kernel
theorem dX9_parses_6 : decode cX9_parses 6 = .ok (.if_icmp .ge 16, 3) := by decide +kernel
theorem dX9_parses_9 : decode cX9_parses 9 = .ok (.aload_n 0, 1) := by decide +kernel
theorem dX9_parses_10 : decode cX9_parses 10 = .ok (.getfield 7, 3) := by decide +kernel
theorem dX9_parses_13 : decode cX9_parses 13 = .ok (.iload_n 1, 1) := by decide +kernel
theorem dX9_parses_14 : decode cX9_parses 14 = .ok (.iconst 0, 1) := by decide +kernel
theorem dX9_parses_15 : decode cX9_parses 15 = .ok (.iastore, 1) := by decide +kernel
theorem dX9_parses_16 : decode cX9_parses 16 = .ok (.iinc 1 1, 3) := by decide +kernel
theorem dX9_parses_19 : decode cX9_parses 19 = .ok (.goto (-17), 3) := by decide +kernel
theorem dX9_parses_22 : decode cX9_parses 22 = .ok (.aload_n 0, 1) := by decide +kernel
theorem dX9_parses_23 : decode cX9_parses 23 = .ok (.iconst 0, 1) := by decide +kernel
theorem dX9_parses_24 : decode cX9_parses 24 = .ok (.putfield 179, 3) := by decide +kernel
theorem dX9_parses_27 : decode cX9_parses 27 = .ok (.aload_n 0, 1) := by decide +kernel
theorem dX9_parses_28 : decode cX9_parses 28 = .ok (.iconst (-1), 1) := by decide +kernel
theorem dX9_parses_29 : decode cX9_parses 29 = .ok (.putfield 34, 3) := by decide +kernel
theorem dX9_parses_32 : decode cX9_parses 32 = .ok (.aload_n 0, 1) := by decide +kernel
theorem dX9_parses_33 : decode cX9_parses 33 = .ok (.iconst 0, 1) := by decide +kernel
theorem dX9_parses_34 : decode cX9_parses 34 = .ok (.putfield 305, 3) := by decide +kernel
theorem dX9_parses_37 : decode cX9_parses 37 = .ok (.aload_n 0, 1) := by decide +kernel
theorem dX9_parses_38 : decode cX9_parses 38 = .ok (.iconst 0, 1) := by decide +kernel
theorem dX9_parses_39 : decode cX9_parses 39 = .ok (.putfield 164, 3) := by decide +kernel
theorem dX9_parses_42 : decode cX9_parses 42 = .ok (.aload_n 0, 1) := by decide +kernel
theorem dX9_parses_43 : decode cX9_parses 43 = .ok (.invokevirtual 188, 3) := by decide +kernel
theorem dX9_parses_46 : decode cX9_parses 46 = .ok (.aload_n 0, 1) := by decide +kernel
theorem dX9_parses_47 : decode cX9_parses 47 = .ok (.invokevirtual 346, 3) := by decide +kernel
theorem dX9_parses_50 : decode cX9_parses 50 = .ok (.ireturn, 1) := by decide +kernel
theorem dX9_append_0 : decode cX9_append 0 = .ok (.aload_n 0, 1) := by decide +kernel
theorem dX9_append_1 : decode cX9_append 1 = .ok (.iconst 0, 1) := by decide +kernel
theorem dX9_append_2 : decode cX9_append 2 = .ok (.putfield 57, 3) := by decide +kernel
theorem dX9_append_5 : decode cX9_append 5 = .ok (.aload_n 0, 1) := by decide +kernel
theorem dX9_append_6 : decode cX9_append 6 = .ok (.getfield 349, 3) := by decide +kernel
theorem dX9_append_9 : decode cX9_append 9 = .ok (.bipush 20, 2) := by decide +kernel
theorem dX9_append_11 : decode cX9_append 11 = .ok (.iadd, 1) := by decide +kernel
theorem dX9_append_12 : decode cX9_append 12 = .ok (.sipush 600, 3) := by decide +kernel
theorem dX9_append_15 : decode cX9_append 15 = .ok (.if_icmp .le 5, 3) := by decide +kernel
theorem dX9_append_18 : decode cX9_append 18 = .ok (.iconst (-1), 1) := by decide +kernel
theorem dX9_append_19 : decode cX9_append 19 = .ok (.ireturn, 1) := by decide +kernel
theorem dX9_append_20 : decode cX9_append 20 = .ok (.aload_n 0, 1) := by decide +kernel
theorem dX9_append_21 : decode cX9_append 21 = .ok (.iload_n 1, 1) := by decide +kernel
theorem dX9_append_22 : decode cX9_append 22 = .ok (.invokevirtual 352, 3) := by decide +kernel
theorem dX9_append_25 : decode cX9_append 25 = .ok (.aload_n 0, 1) := by decide +kernel
theorem dX9_append_26 : decode cX9_append 26 = .ok (.iload_n 2, 1) := by decide +kernel
theorem dX9_append_27 : decode cX9_append 27 = .ok (.invokevirtual 352, 3) := by decide +kernel
theorem dX9_append_30 : decode cX9_append 30 = .ok (.aload_n 0, 1) := by decide +kernel
theorem dX9_append_31 : decode cX9_append 31 = .ok (.iload_n 3, 1) := by decide +kernel
theorem dX9_append_32 : decode cX9_append 32 = .ok (.invokevirtual 352, 3) := by decide +kernel
theorem dX9_append_35 : decode cX9_append 35 = .ok (.aload_n 0, 1) := by decide +kernel
theorem dX9_append_36 : decode cX9_append 36 = .ok (.iload 4, 2) := by decide +kernel
theorem dX9_append_38 : decode cX9_append 38 = .ok (.invokevirtual 352, 3) := by decide +kernel
theorem dX9_append_41 : decode cX9_append 41 = .ok (.aload_n 0, 1) := by decide +kernel
theorem dX9_append_42 : decode cX9_append 42 = .ok (.iload 5, 2) := by decide +kernel
theorem dX9_append_44 : decode cX9_append 44 = .ok (.invokevirtual 352, 3) := by decide +kernel
theorem dX9_append_47 : decode cX9_append 47 = .ok (.aload_n 0, 1) := by decide +kernel
theorem dX9_append_48 : decode cX9_append 48 = .ok (.getfield 349, 3) := by decide +kernel
theorem dX9_append_51 : decode cX9_append 51 = .ok (.ireturn, 1) := by decide +kernel
theorem dX9_type_0 : decode cX9_type 0 = .ok (.bipush 24, 2) := by decide +kernel
theorem dX9_type_2 : decode cX9_type 2 = .ok (.istore_n 2, 1) := by decide +kernel
theorem dX9_type_3 : decode cX9_type 3 = .ok (.iload_n 2, 1) := by decide +kernel
theorem dX9_type_4 : decode cX9_type 4 = .ok (.ifCond .lt 35, 3) := by decide +kernel
theorem dX9_type_7 : decode cX9_type 7 = .ok (.aload_n 0, 1) := by decide +kernel
theorem dX9_type_8 : decode cX9_type 8 = .ok (.getfield 25, 3) := by decide +kernel
theorem dX9_type_11 : decode cX9_type 11 = .ok (.aload_n 0, 1) := by decide +kernel
theorem dX9_type_12 : decode cX9_type 12 = .ok (.getfield 349, 3) := by decide +kernel
theorem dX9_type_15 : decode cX9_type 15 = .ok (.iload_n 1, 1) := by decide +kernel
theorem dX9_type_16 : decode cX9_type 16 = .ok (.iload_n 2, 1) := by decide +kernel
theorem dX9_type_17 : decode cX9_type 17 = .ok (.ishr, 1) := by decide +kernel
theorem dX9_type_18 : decode cX9_type 18 = .ok (.sipush 255, 3) := by decide +kernel
theorem dX9_type_21 : decode cX9_type 21 = .ok (.iand, 1) := by decide +kernel
theorem dX9_type_22 : decode cX9_type 22 = .ok (.iastore, 1) := by decide +kernel
theorem dX9_type_23 : decode cX9_type 23 = .ok (.aload_n 0, 1) := by decide +kernel
theorem dX9_type_24 : decode cX9_type 24 = .ok (.dup, 1) := by decide +kernel
theorem dX9_type_25 : decode cX9_type 25 = .ok (.getfield 349, 3) := by decide +kernel
theorem dX9_type_28 : decode cX9_type 28 = .ok (.iconst 1, 1) := by decide +kernel
theorem dX9_type_29 : decode cX9_type 29 = .ok (.iadd, 1) := by decide +kernel
theorem dX9_type_30 : decode cX9_type 30 = .ok (.putfield 349, 3) := by decide +kernel
theorem dX9_type_33 : decode cX9_type 33 = .ok (.iinc 2 (-8), 3) := by decide +kernel
theorem dX9_type_36 : decode cX9_type 36 = .ok (.goto (-33), 3) := by decide +kernel
theorem dX9_type_39 : decode cX9_type 39 = .ok (.return_, 1) := by decide +kernel
theorem dX9_truncateInput_0 : decode cX9_truncateInput 0 = .ok (.aload_n 0, 1) := by decide +kernel
theorem dX9_truncateInput_1 : decode cX9_truncateInput 1 = .ok (.iload_n 1, 1) := by decide +kernel
theorem dX9_truncateInput_2 : decode cX9_truncateInput 2 = .ok (.iconst 0, 1) := by decide +kernel
theorem dX9_truncateInput_3 : decode cX9_truncateInput 3 = .ok (.aload_n 0, 1) := by decide +kernel
theorem dX9_truncateInput_4 : decode cX9_truncateInput 4 = .ok (.getfield 349, 3) := by decide +kernel
theorem dX9_truncateInput_7 : decode cX9_truncateInput 7 = .ok (.invokestatic 60, 3) := by decide +kernel
theorem dX9_truncateInput_10 : decode cX9_truncateInput 10 = .ok (.ifCond .ne 7, 3) := by decide +kernel
theorem dX9_truncateInput_13 : decode cX9_truncateInput 13 = .ok (.iconst 1, 1) := by decide +kernel
theorem dX9_truncateInput_14 : decode cX9_truncateInput 14 = .ok (.goto 4, 3) := by decide +kernel
theorem dX9_truncateInput_17 : decode cX9_truncateInput 17 = .ok (.iconst 0, 1) := by decide +kernel
theorem dX9_truncateInput_18 : decode cX9_truncateInput 18 = .ok (.invokevirtual 355, 3) := by decide +kernel
theorem dX9_truncateInput_21 : decode cX9_truncateInput 21 = .ok (.ifCond .eq 5, 3) := by decide +kernel
theorem dX9_truncateInput_24 : decode cX9_truncateInput 24 = .ok (.iconst 0, 1) := by decide +kernel
theorem dX9_truncateInput_25 : decode cX9_truncateInput 25 = .ok (.ireturn, 1) := by decide +kernel
theorem dX9_truncateInput_26 : decode cX9_truncateInput 26 = .ok (.aload_n 0, 1) := by decide +kernel
theorem dX9_truncateInput_27 : decode cX9_truncateInput 27 = .ok (.iload_n 1, 1) := by decide +kernel
theorem dX9_truncateInput_28 : decode cX9_truncateInput 28 = .ok (.putfield 349, 3) := by decide +kernel
theorem dX9_truncateInput_31 : decode cX9_truncateInput 31 = .ok (.iload_n 1, 1) := by decide +kernel
theorem dX9_truncateInput_32 : decode cX9_truncateInput 32 = .ok (.ireturn, 1) := by decide +kernel
theorem dX9_begins_0 : decode cX9_begins 0 = .ok (.iconst 0, 1) := by decide +kernel
theorem dX9_begins_1 : decode cX9_begins 1 = .ok (.istore_n 1, 1) := by decide +kernel
theorem dX9_begins_2 : decode cX9_begins 2 = .ok (.iload_n 1, 1) := by decide +kernel
theorem dX9_begins_3 : decode cX9_begins 3 = .ok (.sipush 186, 3) := by decide +kernel
theorem dX9_begins_6 : decode cX9_begins 6 = .ok (.if_icmp .ge 21, 3) := by decide +kernel
theorem dX9_begins_9 : decode cX9_begins 9 = .ok (.aload_n 0, 1) := by decide +kernel
theorem dX9_begins_10 : decode cX9_begins 10 = .ok (.getfield 13, 3) := by decide +kernel
theorem dX9_begins_13 : decode cX9_begins 13 = .ok (.iload_n 1, 1) := by decide +kernel
theorem dX9_begins_14 : decode cX9_begins 14 = .ok (.aload_n 0, 1) := by decide +kernel
theorem dX9_begins_15 : decode cX9_begins 15 = .ok (.getfield 7, 3) := by decide +kernel
theorem dX9_begins_18 : decode cX9_begins 18 = .ok (.iload_n 1, 1) := by decide +kernel
theorem dX9_begins_19 : decode cX9_begins 19 = .ok (.iaload, 1) := by decide +kernel
theorem dX9_begins_20 : decode cX9_begins 20 = .ok (.iastore, 1) := by decide +kernel
theorem dX9_begins_21 : decode cX9_begins 21 = .ok (.iinc 1 1, 3) := by decide +kernel
theorem dX9_begins_24 : decode cX9_begins 24 = .ok (.goto (-22), 3) := by decide +kernel
theorem dX9_begins_27 : decode cX9_begins 27 = .ok (.return_, 1) := by decide +kernel
theorem dX9_remember_0 : decode cX9_remember 0 = .ok (.aload_n 0, 1) := by decide +kernel
theorem dX9_remember_1 : decode cX9_remember 1 = .ok (.getfield 358, 3) := by decide +kernel
theorem dX9_remember_4 : decode cX9_remember 4 = .ok (.bipush 8, 2) := by decide +kernel
theorem dX9_remember_6 : decode cX9_remember 6 = .ok (.if_icmp .ne 46, 3) := by decide +kernel
theorem dX9_remember_9 : decode cX9_remember 9 = .ok (.sipush 186, 3) := by decide +kernel
theorem dX9_remember_12 : decode cX9_remember 12 = .ok (.istore_n 2, 1) := by decide +kernel
theorem dX9_remember_13 : decode cX9_remember 13 = .ok (.iload_n 2, 1) := by decide +kernel
theorem dX9_remember_14 : decode cX9_remember 14 = .ok (.sipush 1488, 3) := by decide +kernel
theorem dX9_remember_17 : decode cX9_remember 17 = .ok (.if_icmp .ge 25, 3) := by decide +kernel
theorem dX9_remember_20 : decode cX9_remember 20 = .ok (.aload_n 0, 1) := by decide +kernel
theorem dX9_remember_21 : decode cX9_remember 21 = .ok (.getfield 19, 3) := by decide +kernel
theorem dX9_remember_24 : decode cX9_remember 24 = .ok (.iload_n 2, 1) := by decide +kernel
theorem dX9_remember_25 : decode cX9_remember 25 = .ok (.sipush 186, 3) := by decide +kernel
theorem dX9_remember_28 : decode cX9_remember 28 = .ok (.isub, 1) := by decide +kernel
theorem dX9_remember_29 : decode cX9_remember 29 = .ok (.aload_n 0, 1) := by decide +kernel
theorem dX9_remember_30 : decode cX9_remember 30 = .ok (.getfield 19, 3) := by decide +kernel
theorem dX9_remember_33 : decode cX9_remember 33 = .ok (.iload_n 2, 1) := by decide +kernel
theorem dX9_remember_34 : decode cX9_remember 34 = .ok (.iaload, 1) := by decide +kernel
theorem dX9_remember_35 : decode cX9_remember 35 = .ok (.iastore, 1) := by decide +kernel
theorem dX9_remember_36 : decode cX9_remember 36 = .ok (.iinc 2 1, 3) := by decide +kernel
theorem dX9_remember_39 : decode cX9_remember 39 = .ok (.goto (-26), 3) := by decide +kernel
theorem dX9_remember_42 : decode cX9_remember 42 = .ok (.aload_n 0, 1) := by decide +kernel
theorem dX9_remember_43 : decode cX9_remember 43 = .ok (.dup, 1) := by decide +kernel
theorem dX9_remember_44 : decode cX9_remember 44 = .ok (.getfield 358, 3) := by decide +kernel
theorem dX9_remember_47 : decode cX9_remember 47 = .ok (.iconst 1, 1) := by decide +kernel
theorem dX9_remember_48 : decode cX9_remember 48 = .ok (.isub, 1) := by decide +kernel
theorem dX9_remember_49 : decode cX9_remember 49 = .ok (.putfield 358, 3) := by decide +kernel
theorem dX9_remember_52 : decode cX9_remember 52 = .ok (.iconst 0, 1) := by decide +kernel
theorem dX9_remember_53 : decode cX9_remember 53 = .ok (.istore_n 2, 1) := by decide +kernel
theorem dX9_remember_54 : decode cX9_remember 54 = .ok (.iload_n 2, 1) := by decide +kernel
theorem dX9_remember_55 : decode cX9_remember 55 = .ok (.sipush 186, 3) := by decide +kernel
theorem dX9_remember_58 : decode cX9_remember 58 = .ok (.if_icmp .ge 30, 3) := by decide +kernel
theorem dX9_remember_61 : decode cX9_remember 61 = .ok (.aload_n 0, 1) := by decide +kernel
theorem dX9_remember_62 : decode cX9_remember 62 = .ok (.getfield 19, 3) := by decide +kernel
theorem dX9_remember_65 : decode cX9_remember 65 = .ok (.sipush 186, 3) := by decide +kernel
theorem dX9_remember_68 : decode cX9_remember 68 = .ok (.aload_n 0, 1) := by decide +kernel
theorem dX9_remember_69 : decode cX9_remember 69 = .ok (.getfield 358, 3) := by decide +kernel
theorem dX9_remember_72 : decode cX9_remember 72 = .ok (.imul, 1) := by decide +kernel
theorem dX9_remember_73 : decode cX9_remember 73 = .ok (.iload_n 2, 1) := by decide +kernel
theorem dX9_remember_74 : decode cX9_remember 74 = .ok (.iadd, 1) := by decide +kernel
theorem dX9_remember_75 : decode cX9_remember 75 = .ok (.aload_n 0, 1) := by decide +kernel
theorem dX9_remember_76 : decode cX9_remember 76 = .ok (.getfield 13, 3) := by decide +kernel
theorem dX9_remember_79 : decode cX9_remember 79 = .ok (.iload_n 2, 1) := by decide +kernel
theorem dX9_remember_80 : decode cX9_remember 80 = .ok (.iaload, 1) := by decide +kernel
theorem dX9_remember_81 : decode cX9_remember 81 = .ok (.iastore, 1) := by decide +kernel
theorem dX9_remember_82 : decode cX9_remember 82 = .ok (.iinc 2 1, 3) := by decide +kernel
theorem dX9_remember_85 : decode cX9_remember 85 = .ok (.goto (-31), 3) := by decide +kernel
theorem dX9_remember_88 : decode cX9_remember 88 = .ok (.aload_n 0, 1) := by decide +kernel
theorem dX9_remember_89 : decode cX9_remember 89 = .ok (.dup, 1) := by decide +kernel
theorem dX9_remember_90 : decode cX9_remember 90 = .ok (.getfield 358, 3) := by decide +kernel
theorem dX9_remember_93 : decode cX9_remember 93 = .ok (.iconst 1, 1) := by decide +kernel
theorem dX9_remember_94 : decode cX9_remember 94 = .ok (.iadd, 1) := by decide +kernel
theorem dX9_remember_95 : decode cX9_remember 95 = .ok (.putfield 358, 3) := by decide +kernel
theorem dX9_remember_98 : decode cX9_remember 98 = .ok (.iload_n 1, 1) := by decide +kernel
theorem dX9_remember_99 : decode cX9_remember 99 = .ok (.ireturn, 1) := by decide +kernel
theorem dX9_runScript_0 : decode cX9_runScript 0 = .ok (.aload_n 0, 1) := by decide +kernel
theorem dX9_runScript_1 : decode cX9_runScript 1 = .ok (.iconst 0, 1) := by decide +kernel
theorem dX9_runScript_2 : decode cX9_runScript 2 = .ok (.putfield 57, 3) := by decide +kernel
theorem dX9_runScript_5 : decode cX9_runScript 5 = .ok (.iconst 0, 1) := by decide +kernel
theorem dX9_runScript_6 : decode cX9_runScript 6 = .ok (.istore_n 1, 1) := by decide +kernel
theorem dX9_runScript_7 : decode cX9_runScript 7 = .ok (.iload_n 1, 1) := by decide +kernel
theorem dX9_runScript_8 : decode cX9_runScript 8 = .ok (.aload_n 0, 1) := by decide +kernel
theorem dX9_runScript_9 : decode cX9_runScript 9 = .ok (.getfield 349, 3) := by decide +kernel
theorem dX9_runScript_12 : decode cX9_runScript 12 = .ok (.if_icmp .ge 21, 3) := by decide +kernel
theorem dX9_runScript_15 : decode cX9_runScript 15 = .ok (.aload_n 0, 1) := by decide +kernel
theorem dX9_runScript_16 : decode cX9_runScript 16 = .ok (.getfield 28, 3) := by decide +kernel
theorem dX9_runScript_19 : decode cX9_runScript 19 = .ok (.iload_n 1, 1) := by decide +kernel
theorem dX9_runScript_20 : decode cX9_runScript 20 = .ok (.aload_n 0, 1) := by decide +kernel
theorem dX9_runScript_21 : decode cX9_runScript 21 = .ok (.getfield 25, 3) := by decide +kernel
theorem dX9_runScript_24 : decode cX9_runScript 24 = .ok (.iload_n 1, 1) := by decide +kernel
theorem dX9_runScript_25 : decode cX9_runScript 25 = .ok (.iaload, 1) := by decide +kernel
theorem dX9_runScript_26 : decode cX9_runScript 26 = .ok (.iastore, 1) := by decide +kernel
theorem dX9_runScript_27 : decode cX9_runScript 27 = .ok (.iinc 1 1, 3) := by decide +kernel
theorem dX9_runScript_30 : decode cX9_runScript 30 = .ok (.goto (-23), 3) := by decide +kernel
theorem dX9_runScript_33 : decode cX9_runScript 33 = .ok (.aload_n 0, 1) := by decide +kernel
theorem dX9_runScript_34 : decode cX9_runScript 34 = .ok (.aload_n 0, 1) := by decide +kernel
theorem dX9_runScript_35 : decode cX9_runScript 35 = .ok (.getfield 349, 3) := by decide +kernel
theorem dX9_runScript_38 : decode cX9_runScript 38 = .ok (.putfield 157, 3) := by decide +kernel
theorem dX9_runScript_41 : decode cX9_runScript 41 = .ok (.aload_n 0, 1) := by decide +kernel
theorem dX9_runScript_42 : decode cX9_runScript 42 = .ok (.iconst 0, 1) := by decide +kernel
theorem dX9_runScript_43 : decode cX9_runScript 43 = .ok (.putfield 349, 3) := by decide +kernel
theorem dX9_runScript_46 : decode cX9_runScript 46 = .ok (.aload_n 0, 1) := by decide +kernel
theorem dX9_runScript_47 : decode cX9_runScript 47 = .ok (.invokevirtual 361, 3) := by decide +kernel
theorem dX9_runScript_50 : decode cX9_runScript 50 = .ok (.aload_n 0, 1) := by decide +kernel
theorem dX9_runScript_51 : decode cX9_runScript 51 = .ok (.invokevirtual 53, 3) := by decide +kernel
theorem dX9_runScript_54 : decode cX9_runScript 54 = .ok (.ifCond .ne 32, 3) := by decide +kernel
theorem dX9_runScript_57 : decode cX9_runScript 57 = .ok (.iconst 0, 1) := by decide +kernel
theorem dX9_runScript_58 : decode cX9_runScript 58 = .ok (.istore_n 1, 1) := by decide +kernel
theorem dX9_runScript_59 : decode cX9_runScript 59 = .ok (.iload_n 1, 1) := by decide +kernel
theorem dX9_runScript_60 : decode cX9_runScript 60 = .ok (.sipush 186, 3) := by decide +kernel
theorem dX9_runScript_63 : decode cX9_runScript 63 = .ok (.if_icmp .ge 21, 3) := by decide +kernel
theorem dX9_runScript_66 : decode cX9_runScript 66 = .ok (.aload_n 0, 1) := by decide +kernel
theorem dX9_runScript_67 : decode cX9_runScript 67 = .ok (.getfield 7, 3) := by decide +kernel
theorem dX9_runScript_70 : decode cX9_runScript 70 = .ok (.iload_n 1, 1) := by decide +kernel
theorem dX9_runScript_71 : decode cX9_runScript 71 = .ok (.aload_n 0, 1) := by decide +kernel
theorem dX9_runScript_72 : decode cX9_runScript 72 = .ok (.getfield 13, 3) := by decide +kernel
theorem dX9_runScript_75 : decode cX9_runScript 75 = .ok (.iload_n 1, 1) := by decide +kernel
theorem dX9_runScript_76 : decode cX9_runScript 76 = .ok (.iaload, 1) := by decide +kernel
theorem dX9_runScript_77 : decode cX9_runScript 77 = .ok (.iastore, 1) := by decide +kernel
theorem dX9_runScript_78 : decode cX9_runScript 78 = .ok (.iinc 1 1, 3) := by decide +kernel
theorem dX9_runScript_81 : decode cX9_runScript 81 = .ok (.goto (-22), 3) := by decide +kernel
theorem dX9_runScript_84 : decode cX9_runScript 84 = .ok (.iconst (-1), 1) := by decide +kernel
theorem dX9_runScript_85 : decode cX9_runScript 85 = .ok (.ireturn, 1) := by decide +kernel
theorem dX9_runScript_86 : decode cX9_runScript 86 = .ok (.aload_n 0, 1) := by decide +kernel
theorem dX9_runScript_87 : decode cX9_runScript 87 = .ok (.aload_n 0, 1) := by decide +kernel
theorem dX9_runScript_88 : decode cX9_runScript 88 = .ok (.getfield 7, 3) := by decide +kernel
theorem dX9_runScript_91 : decode cX9_runScript 91 = .ok (.iconst 2, 1) := by decide +kernel
theorem dX9_runScript_92 : decode cX9_runScript 92 = .ok (.iaload, 1) := by decide +kernel
theorem dX9_runScript_93 : decode cX9_runScript 93 = .ok (.invokevirtual 364, 3) := by decide +kernel
theorem dX9_runScript_96 : decode cX9_runScript 96 = .ok (.ireturn, 1) := by decide +kernel
theorem dX9_addChimney_0 : decode cX9_addChimney 0 = .ok (.aload_n 0, 1) := by decide +kernel
theorem dX9_addChimney_1 : decode cX9_addChimney 1 = .ok (.iload_n 1, 1) := by decide +kernel
theorem dX9_addChimney_2 : decode cX9_addChimney 2 = .ok (.iconst 0, 1) := by decide +kernel
theorem dX9_addChimney_3 : decode cX9_addChimney 3 = .ok (.bipush 9, 2) := by decide +kernel
theorem dX9_addChimney_5 : decode cX9_addChimney 5 = .ok (.invokestatic 60, 3) := by decide +kernel
theorem dX9_addChimney_8 : decode cX9_addChimney 8 = .ok (.ifCond .ne 7, 3) := by decide +kernel
theorem dX9_addChimney_11 : decode cX9_addChimney 11 = .ok (.iconst 1, 1) := by decide +kernel
theorem dX9_addChimney_12 : decode cX9_addChimney 12 = .ok (.goto 4, 3) := by decide +kernel
theorem dX9_addChimney_15 : decode cX9_addChimney 15 = .ok (.iconst 0, 1) := by decide +kernel
theorem dX9_addChimney_16 : decode cX9_addChimney 16 = .ok (.aload_n 0, 1) := by decide +kernel
theorem dX9_addChimney_17 : decode cX9_addChimney 17 = .ok (.getfield 7, 3) := by decide +kernel
theorem dX9_addChimney_20 : decode cX9_addChimney 20 = .ok (.iconst 0, 1) := by decide +kernel
theorem dX9_addChimney_21 : decode cX9_addChimney 21 = .ok (.iaload, 1) := by decide +kernel
theorem dX9_addChimney_22 : decode cX9_addChimney 22 = .ok (.bipush 10, 2) := by decide +kernel
theorem dX9_addChimney_24 : decode cX9_addChimney 24 = .ok (.if_icmp .ne 7, 3) := by decide +kernel
theorem dX9_addChimney_27 : decode cX9_addChimney 27 = .ok (.iconst 1, 1) := by decide +kernel
theorem dX9_addChimney_28 : decode cX9_addChimney 28 = .ok (.goto 4, 3) := by decide +kernel
theorem dX9_addChimney_31 : decode cX9_addChimney 31 = .ok (.iconst 0, 1) := by decide +kernel
theorem dX9_addChimney_32 : decode cX9_addChimney 32 = .ok (.invokevirtual 367, 3) := by decide +kernel
theorem dX9_addChimney_35 : decode cX9_addChimney 35 = .ok (.ifCond .eq 5, 3) := by decide +kernel
theorem dX9_addChimney_38 : decode cX9_addChimney 38 = .ok (.iconst 0, 1) := by decide +kernel
theorem dX9_addChimney_39 : decode cX9_addChimney 39 = .ok (.ireturn, 1) := by decide +kernel
theorem dX9_addChimney_40 : decode cX9_addChimney 40 = .ok (.aload_n 0, 1) := by decide +kernel
theorem dX9_addChimney_41 : decode cX9_addChimney 41 = .ok (.invokevirtual 361, 3) := by decide +kernel
theorem dX9_addChimney_44 : decode cX9_addChimney 44 = .ok (.aload_n 0, 1) := by decide +kernel
theorem dX9_addChimney_45 : decode cX9_addChimney 45 = .ok (.aload_n 0, 1) := by decide +kernel
theorem dX9_addChimney_46 : decode cX9_addChimney 46 = .ok (.iload_n 1, 1) := by decide +kernel
theorem dX9_addChimney_47 : decode cX9_addChimney 47 = .ok (.invokevirtual 198, 3) := by decide +kernel
theorem dX9_addChimney_50 : decode cX9_addChimney 50 = .ok (.invokevirtual 364, 3) := by decide +kernel
theorem dX9_addChimney_53 : decode cX9_addChimney 53 = .ok (.ireturn, 1) := by decide +kernel
theorem dX9_addGutter_0 : decode cX9_addGutter 0 = .ok (.aload_n 0, 1) := by decide +kernel
theorem dX9_addGutter_1 : decode cX9_addGutter 1 = .ok (.aload_n 0, 1) := by decide +kernel
theorem dX9_addGutter_2 : decode cX9_addGutter 2 = .ok (.iload_n 1, 1) := by decide +kernel
theorem dX9_addGutter_3 : decode cX9_addGutter 3 = .ok (.invokevirtual 370, 3) := by decide +kernel
theorem dX9_addGutter_6 : decode cX9_addGutter 6 = .ok (.ifCond .eq 11, 3) := by decide +kernel
theorem dX9_addGutter_9 : decode cX9_addGutter 9 = .ok (.aload_n 0, 1) := by decide +kernel
theorem dX9_addGutter_10 : decode cX9_addGutter 10 = .ok (.iload_n 2, 1) := by decide +kernel
theorem dX9_addGutter_11 : decode cX9_addGutter 11 = .ok (.invokevirtual 370, 3) := by decide +kernel
theorem dX9_addGutter_14 : decode cX9_addGutter 14 = .ok (.ifCond .ne 7, 3) := by decide +kernel
theorem dX9_addGutter_17 : decode cX9_addGutter 17 = .ok (.iconst 1, 1) := by decide +kernel
theorem dX9_addGutter_18 : decode cX9_addGutter 18 = .ok (.goto 4, 3) := by decide +kernel
theorem dX9_addGutter_21 : decode cX9_addGutter 21 = .ok (.iconst 0, 1) := by decide +kernel
theorem dX9_addGutter_22 : decode cX9_addGutter 22 = .ok (.iload_n 1, 1) := by decide +kernel
theorem dX9_addGutter_23 : decode cX9_addGutter 23 = .ok (.iload_n 2, 1) := by decide +kernel
theorem dX9_addGutter_24 : decode cX9_addGutter 24 = .ok (.if_icmp .eq 13, 3) := by decide +kernel
theorem dX9_addGutter_27 : decode cX9_addGutter 27 = .ok (.iload_n 3, 1) := by decide +kernel
theorem dX9_addGutter_28 : decode cX9_addGutter 28 = .ok (.iconst 1, 1) := by decide +kernel
theorem dX9_addGutter_29 : decode cX9_addGutter 29 = .ok (.bipush 9, 2) := by decide +kernel
theorem dX9_addGutter_31 : decode cX9_addGutter 31 = .ok (.invokestatic 60, 3) := by decide +kernel
theorem dX9_addGutter_34 : decode cX9_addGutter 34 = .ok (.ifCond .ne 7, 3) := by decide +kernel
theorem dX9_addGutter_37 : decode cX9_addGutter 37 = .ok (.iconst 1, 1) := by decide +kernel
theorem dX9_addGutter_38 : decode cX9_addGutter 38 = .ok (.goto 4, 3) := by decide +kernel
theorem dX9_addGutter_41 : decode cX9_addGutter 41 = .ok (.iconst 0, 1) := by decide +kernel
theorem dX9_addGutter_42 : decode cX9_addGutter 42 = .ok (.aload_n 0, 1) := by decide +kernel
theorem dX9_addGutter_43 : decode cX9_addGutter 43 = .ok (.getfield 7, 3) := by decide +kernel
theorem dX9_addGutter_46 : decode cX9_addGutter 46 = .ok (.iconst 1, 1) := by decide +kernel
theorem dX9_addGutter_47 : decode cX9_addGutter 47 = .ok (.iaload, 1) := by decide +kernel
theorem dX9_addGutter_48 : decode cX9_addGutter 48 = .ok (.bipush 20, 2) := by decide +kernel
theorem dX9_addGutter_50 : decode cX9_addGutter 50 = .ok (.if_icmp .ne 7, 3) := by decide +kernel
theorem dX9_addGutter_53 : decode cX9_addGutter 53 = .ok (.iconst 1, 1) := by decide +kernel
theorem dX9_addGutter_54 : decode cX9_addGutter 54 = .ok (.goto 4, 3) := by decide +kernel
theorem dX9_addGutter_57 : decode cX9_addGutter 57 = .ok (.iconst 0, 1) := by decide +kernel
theorem dX9_addGutter_58 : decode cX9_addGutter 58 = .ok (.invokevirtual 373, 3) := by decide +kernel
theorem dX9_addGutter_61 : decode cX9_addGutter 61 = .ok (.ifCond .eq 5, 3) := by decide +kernel
theorem dX9_addGutter_64 : decode cX9_addGutter 64 = .ok (.iconst 0, 1) := by decide +kernel
theorem dX9_addGutter_65 : decode cX9_addGutter 65 = .ok (.ireturn, 1) := by decide +kernel
theorem dX9_addGutter_66 : decode cX9_addGutter 66 = .ok (.aload_n 0, 1) := by decide +kernel
theorem dX9_addGutter_67 : decode cX9_addGutter 67 = .ok (.invokevirtual 361, 3) := by decide +kernel
theorem dX9_addGutter_70 : decode cX9_addGutter 70 = .ok (.aload_n 0, 1) := by decide +kernel
theorem dX9_addGutter_71 : decode cX9_addGutter 71 = .ok (.aload_n 0, 1) := by decide +kernel
theorem dX9_addGutter_72 : decode cX9_addGutter 72 = .ok (.iload_n 1, 1) := by decide +kernel
theorem dX9_addGutter_73 : decode cX9_addGutter 73 = .ok (.iload_n 2, 1) := by decide +kernel
theorem dX9_addGutter_74 : decode cX9_addGutter 74 = .ok (.iload_n 3, 1) := by decide +kernel
theorem dX9_addGutter_75 : decode cX9_addGutter 75 = .ok (.invokevirtual 207, 3) := by decide +kernel
theorem dX9_addGutter_78 : decode cX9_addGutter 78 = .ok (.invokevirtual 364, 3) := by decide +kernel
theorem dX9_addGutter_81 : decode cX9_addGutter 81 = .ok (.ireturn, 1) := by decide +kernel
theorem dX9_areSizes_0 : decode cX9_areSizes 0 = .ok (.iload_n 0, 1) := by decide +kernel
theorem dX9_areSizes_1 : decode cX9_areSizes 1 = .ok (.iconst 1, 1) := by decide +kernel
theorem dX9_areSizes_2 : decode cX9_areSizes 2 = .ok (.bipush 9, 2) := by decide +kernel
theorem dX9_areSizes_4 : decode cX9_areSizes 4 = .ok (.invokestatic 60, 3) := by decide +kernel
theorem dX9_areSizes_7 : decode cX9_areSizes 7 = .ok (.ifCond .eq 17, 3) := by decide +kernel
theorem dX9_areSizes_10 : decode cX9_areSizes 10 = .ok (.iload_n 1, 1) := by decide +kernel
theorem dX9_areSizes_11 : decode cX9_areSizes 11 = .ok (.iconst 1, 1) := by decide +kernel
theorem dX9_areSizes_12 : decode cX9_areSizes 12 = .ok (.bipush 9, 2) := by decide +kernel
theorem dX9_areSizes_14 : decode cX9_areSizes 14 = .ok (.invokestatic 60, 3) := by decide +kernel
theorem dX9_areSizes_17 : decode cX9_areSizes 17 = .ok (.ifCond .eq 7, 3) := by decide +kernel
theorem dX9_areSizes_20 : decode cX9_areSizes 20 = .ok (.iconst 1, 1) := by decide +kernel
theorem dX9_areSizes_21 : decode cX9_areSizes 21 = .ok (.goto 4, 3) := by decide +kernel
theorem dX9_areSizes_24 : decode cX9_areSizes 24 = .ok (.iconst 0, 1) := by decide +kernel
theorem dX9_areSizes_25 : decode cX9_areSizes 25 = .ok (.ireturn, 1) := by decide +kernel
theorem dX9_addCat_0 : decode cX9_addCat 0 = .ok (.aload_n 0, 1) := by decide +kernel
theorem dX9_addCat_1 : decode cX9_addCat 1 = .ok (.iload_n 1, 1) := by decide +kernel
theorem dX9_addCat_2 : decode cX9_addCat 2 = .ok (.invokevirtual 370, 3) := by decide +kernel
theorem dX9_addCat_5 : decode cX9_addCat 5 = .ok (.istore 4, 2) := by decide +kernel
theorem dX9_addCat_7 : decode cX9_addCat 7 = .ok (.aload_n 0, 1) := by decide +kernel
theorem dX9_addCat_8 : decode cX9_addCat 8 = .ok (.iload 4, 2) := by decide +kernel
theorem dX9_addCat_10 : decode cX9_addCat 10 = .ok (.ifCond .ne 7, 3) := by decide +kernel
theorem dX9_addCat_13 : decode cX9_addCat 13 = .ok (.iconst 1, 1) := by decide +kernel
theorem dX9_addCat_14 : decode cX9_addCat 14 = .ok (.goto 4, 3) := by decide +kernel
theorem dX9_addCat_17 : decode cX9_addCat 17 = .ok (.iconst 0, 1) := by decide +kernel
theorem dX9_addCat_18 : decode cX9_addCat 18 = .ok (.iload_n 2, 1) := by decide +kernel
theorem dX9_addCat_19 : decode cX9_addCat 19 = .ok (.iload_n 3, 1) := by decide +kernel
theorem dX9_addCat_20 : decode cX9_addCat 20 = .ok (.invokestatic 376, 3) := by decide +kernel
theorem dX9_addCat_23 : decode cX9_addCat 23 = .ok (.ifCond .ne 7, 3) := by decide +kernel
theorem dX9_addCat_26 : decode cX9_addCat 26 = .ok (.iconst 1, 1) := by decide +kernel
theorem dX9_addCat_27 : decode cX9_addCat 27 = .ok (.goto 4, 3) := by decide +kernel
theorem dX9_addCat_30 : decode cX9_addCat 30 = .ok (.iconst 0, 1) := by decide +kernel
theorem dX9_addCat_31 : decode cX9_addCat 31 = .ok (.iload 4, 2) := by decide +kernel
theorem dX9_addCat_33 : decode cX9_addCat 33 = .ok (.ifCond .eq 15, 3) := by decide +kernel
theorem dX9_addCat_36 : decode cX9_addCat 36 = .ok (.aload_n 0, 1) := by decide +kernel
theorem dX9_addCat_37 : decode cX9_addCat 37 = .ok (.iload_n 1, 1) := by decide +kernel
theorem dX9_addCat_38 : decode cX9_addCat 38 = .ok (.invokevirtual 213, 3) := by decide +kernel
theorem dX9_addCat_41 : decode cX9_addCat 41 = .ok (.ifCond .ne 7, 3) := by decide +kernel
theorem dX9_addCat_44 : decode cX9_addCat 44 = .ok (.iconst 1, 1) := by decide +kernel
theorem dX9_addCat_45 : decode cX9_addCat 45 = .ok (.goto 4, 3) := by decide +kernel
theorem dX9_addCat_48 : decode cX9_addCat 48 = .ok (.iconst 0, 1) := by decide +kernel
theorem dX9_addCat_49 : decode cX9_addCat 49 = .ok (.invokevirtual 373, 3) := by decide +kernel
theorem dX9_addCat_52 : decode cX9_addCat 52 = .ok (.ifCond .eq 5, 3) := by decide +kernel
theorem dX9_addCat_55 : decode cX9_addCat 55 = .ok (.iconst 0, 1) := by decide +kernel
theorem dX9_addCat_56 : decode cX9_addCat 56 = .ok (.ireturn, 1) := by decide +kernel
theorem dX9_addCat_57 : decode cX9_addCat 57 = .ok (.aload_n 0, 1) := by decide +kernel
theorem dX9_addCat_58 : decode cX9_addCat 58 = .ok (.invokevirtual 361, 3) := by decide +kernel
theorem dX9_addCat_61 : decode cX9_addCat 61 = .ok (.aload_n 0, 1) := by decide +kernel
theorem dX9_addCat_62 : decode cX9_addCat 62 = .ok (.aload_n 0, 1) := by decide +kernel
theorem dX9_addCat_63 : decode cX9_addCat 63 = .ok (.iload_n 1, 1) := by decide +kernel
theorem dX9_addCat_64 : decode cX9_addCat 64 = .ok (.iload_n 2, 1) := by decide +kernel
theorem dX9_addCat_65 : decode cX9_addCat 65 = .ok (.iload_n 3, 1) := by decide +kernel
theorem dX9_addCat_66 : decode cX9_addCat 66 = .ok (.invokevirtual 131, 3) := by decide +kernel
theorem dX9_addCat_69 : decode cX9_addCat 69 = .ok (.invokevirtual 364, 3) := by decide +kernel
theorem dX9_addCat_72 : decode cX9_addCat 72 = .ok (.ireturn, 1) := by decide +kernel
theorem dX9_step_0 : decode cX9_step 0 = .ok (.aload_n 0, 1) := by decide +kernel
theorem dX9_step_1 : decode cX9_step 1 = .ok (.iload_n 1, 1) := by decide +kernel
theorem dX9_step_2 : decode cX9_step 2 = .ok (.invokevirtual 379, 3) := by decide +kernel
theorem dX9_step_5 : decode cX9_step 5 = .ok (.ifCond .eq 15, 3) := by decide +kernel
theorem dX9_step_8 : decode cX9_step 8 = .ok (.aload_n 0, 1) := by decide +kernel
theorem dX9_step_9 : decode cX9_step 9 = .ok (.iload_n 2, 1) := by decide +kernel
theorem dX9_step_10 : decode cX9_step 10 = .ok (.invokevirtual 382, 3) := by decide +kernel
theorem dX9_step_13 : decode cX9_step 13 = .ok (.ifCond .eq 7, 3) := by decide +kernel
theorem dX9_step_16 : decode cX9_step 16 = .ok (.iconst 1, 1) := by decide +kernel
theorem dX9_step_17 : decode cX9_step 17 = .ok (.goto 4, 3) := by decide +kernel
theorem dX9_step_20 : decode cX9_step 20 = .ok (.iconst 0, 1) := by decide +kernel
theorem dX9_step_21 : decode cX9_step 21 = .ok (.istore_n 3, 1) := by decide +kernel
theorem dX9_step_22 : decode cX9_step 22 = .ok (.aload_n 0, 1) := by decide +kernel
theorem dX9_step_23 : decode cX9_step 23 = .ok (.iload_n 3, 1) := by decide +kernel
theorem dX9_step_24 : decode cX9_step 24 = .ok (.ifCond .ne 7, 3) := by decide +kernel
theorem dX9_step_27 : decode cX9_step 27 = .ok (.iconst 1, 1) := by decide +kernel
theorem dX9_step_28 : decode cX9_step 28 = .ok (.goto 4, 3) := by decide +kernel
theorem dX9_step_31 : decode cX9_step 31 = .ok (.iconst 0, 1) := by decide +kernel
theorem dX9_step_32 : decode cX9_step 32 = .ok (.iload_n 3, 1) := by decide +kernel
theorem dX9_step_33 : decode cX9_step 33 = .ok (.ifCond .eq 16, 3) := by decide +kernel
theorem dX9_step_36 : decode cX9_step 36 = .ok (.aload_n 0, 1) := by decide +kernel
theorem dX9_step_37 : decode cX9_step 37 = .ok (.iload_n 1, 1) := by decide +kernel
theorem dX9_step_38 : decode cX9_step 38 = .ok (.iload_n 2, 1) := by decide +kernel
theorem dX9_step_39 : decode cX9_step 39 = .ok (.invokevirtual 219, 3) := by decide +kernel
theorem dX9_step_42 : decode cX9_step 42 = .ok (.ifCond .eq 7, 3) := by decide +kernel
theorem dX9_step_45 : decode cX9_step 45 = .ok (.iconst 1, 1) := by decide +kernel
theorem dX9_step_46 : decode cX9_step 46 = .ok (.goto 4, 3) := by decide +kernel
theorem dX9_step_49 : decode cX9_step 49 = .ok (.iconst 0, 1) := by decide +kernel
theorem dX9_step_50 : decode cX9_step 50 = .ok (.invokevirtual 367, 3) := by decide +kernel
theorem dX9_step_53 : decode cX9_step 53 = .ok (.ifCond .eq 5, 3) := by decide +kernel
theorem dX9_step_56 : decode cX9_step 56 = .ok (.iconst 0, 1) := by decide +kernel
theorem dX9_step_57 : decode cX9_step 57 = .ok (.ireturn, 1) := by decide +kernel
theorem dX9_step_58 : decode cX9_step 58 = .ok (.aload_n 0, 1) := by decide +kernel
theorem dX9_step_59 : decode cX9_step 59 = .ok (.invokevirtual 361, 3) := by decide +kernel
theorem dX9_step_62 : decode cX9_step 62 = .ok (.aload_n 0, 1) := by decide +kernel
theorem dX9_step_63 : decode cX9_step 63 = .ok (.aload_n 0, 1) := by decide +kernel
theorem dX9_step_64 : decode cX9_step 64 = .ok (.iload_n 1, 1) := by decide +kernel
theorem dX9_step_65 : decode cX9_step 65 = .ok (.iload_n 2, 1) := by decide +kernel
theorem dX9_step_66 : decode cX9_step 66 = .ok (.invokevirtual 222, 3) := by decide +kernel
theorem dX9_step_69 : decode cX9_step 69 = .ok (.invokevirtual 364, 3) := by decide +kernel
theorem dX9_step_72 : decode cX9_step 72 = .ok (.ireturn, 1) := by decide +kernel
theorem dX9_claim_0 : decode cX9_claim 0 = .ok (.aload_n 0, 1) := by decide +kernel
theorem dX9_claim_1 : decode cX9_claim 1 = .ok (.iload_n 1, 1) := by decide +kernel
theorem dX9_claim_2 : decode cX9_claim 2 = .ok (.invokevirtual 379, 3) := by decide +kernel
theorem dX9_claim_5 : decode cX9_claim 5 = .ok (.istore_n 2, 1) := by decide +kernel
theorem dX9_claim_6 : decode cX9_claim 6 = .ok (.aload_n 0, 1) := by decide +kernel
theorem dX9_claim_7 : decode cX9_claim 7 = .ok (.iload_n 2, 1) := by decide +kernel
theorem dX9_claim_8 : decode cX9_claim 8 = .ok (.ifCond .ne 7, 3) := by decide +kernel
theorem dX9_claim_11 : decode cX9_claim 11 = .ok (.iconst 1, 1) := by decide +kernel
theorem dX9_claim_12 : decode cX9_claim 12 = .ok (.goto 4, 3) := by decide +kernel
theorem dX9_claim_15 : decode cX9_claim 15 = .ok (.iconst 0, 1) := by decide +kernel
theorem dX9_claim_16 : decode cX9_claim 16 = .ok (.iload_n 2, 1) := by decide +kernel
theorem dX9_claim_17 : decode cX9_claim 17 = .ok (.ifCond .eq 15, 3) := by decide +kernel
theorem dX9_claim_20 : decode cX9_claim 20 = .ok (.aload_n 0, 1) := by decide +kernel
theorem dX9_claim_21 : decode cX9_claim 21 = .ok (.iload_n 1, 1) := by decide +kernel
theorem dX9_claim_22 : decode cX9_claim 22 = .ok (.invokevirtual 225, 3) := by decide +kernel
theorem dX9_claim_25 : decode cX9_claim 25 = .ok (.ifCond .eq 7, 3) := by decide +kernel
theorem dX9_claim_28 : decode cX9_claim 28 = .ok (.iconst 1, 1) := by decide +kernel
theorem dX9_claim_29 : decode cX9_claim 29 = .ok (.goto 4, 3) := by decide +kernel
theorem dX9_claim_32 : decode cX9_claim 32 = .ok (.iconst 0, 1) := by decide +kernel
theorem dX9_claim_33 : decode cX9_claim 33 = .ok (.invokevirtual 367, 3) := by decide +kernel
theorem dX9_claim_36 : decode cX9_claim 36 = .ok (.ifCond .eq 5, 3) := by decide +kernel
theorem dX9_claim_39 : decode cX9_claim 39 = .ok (.iconst 0, 1) := by decide +kernel
theorem dX9_claim_40 : decode cX9_claim 40 = .ok (.ireturn, 1) := by decide +kernel
theorem dX9_claim_41 : decode cX9_claim 41 = .ok (.aload_n 0, 1) := by decide +kernel
theorem dX9_claim_42 : decode cX9_claim 42 = .ok (.invokevirtual 361, 3) := by decide +kernel
theorem dX9_claim_45 : decode cX9_claim 45 = .ok (.aload_n 0, 1) := by decide +kernel
theorem dX9_claim_46 : decode cX9_claim 46 = .ok (.aload_n 0, 1) := by decide +kernel
theorem dX9_claim_47 : decode cX9_claim 47 = .ok (.iload_n 1, 1) := by decide +kernel
theorem dX9_claim_48 : decode cX9_claim 48 = .ok (.invokevirtual 228, 3) := by decide +kernel
theorem dX9_claim_51 : decode cX9_claim 51 = .ok (.invokevirtual 364, 3) := by decide +kernel
theorem dX9_claim_54 : decode cX9_claim 54 = .ok (.ireturn, 1) := by decide +kernel
theorem dX9_abandon_0 : decode cX9_abandon 0 = .ok (.aload_n 0, 1) := by decide +kernel
theorem dX9_abandon_1 : decode cX9_abandon 1 = .ok (.iload_n 1, 1) := by decide +kernel
theorem dX9_abandon_2 : decode cX9_abandon 2 = .ok (.invokevirtual 370, 3) := by decide +kernel
theorem dX9_abandon_5 : decode cX9_abandon 5 = .ok (.istore_n 2, 1) := by decide +kernel
theorem dX9_abandon_6 : decode cX9_abandon 6 = .ok (.aload_n 0, 1) := by decide +kernel
theorem dX9_abandon_7 : decode cX9_abandon 7 = .ok (.iload_n 2, 1) := by decide +kernel
theorem dX9_abandon_8 : decode cX9_abandon 8 = .ok (.ifCond .ne 7, 3) := by decide +kernel
theorem dX9_abandon_11 : decode cX9_abandon 11 = .ok (.iconst 1, 1) := by decide +kernel
theorem dX9_abandon_12 : decode cX9_abandon 12 = .ok (.goto 4, 3) := by decide +kernel
theorem dX9_abandon_15 : decode cX9_abandon 15 = .ok (.iconst 0, 1) := by decide +kernel
theorem dX9_abandon_16 : decode cX9_abandon 16 = .ok (.iload_n 2, 1) := by decide +kernel
theorem dX9_abandon_17 : decode cX9_abandon 17 = .ok (.ifCond .eq 16, 3) := by decide +kernel
theorem dX9_abandon_20 : decode cX9_abandon 20 = .ok (.aload_n 0, 1) := by decide +kernel
theorem dX9_abandon_21 : decode cX9_abandon 21 = .ok (.iload_n 1, 1) := by decide +kernel
theorem dX9_abandon_22 : decode cX9_abandon 22 = .ok (.invokevirtual 68, 3) := by decide +kernel
theorem dX9_abandon_25 : decode cX9_abandon 25 = .ok (.iconst (-1), 1) := by decide +kernel
theorem dX9_abandon_26 : decode cX9_abandon 26 = .ok (.if_icmp .ne 7, 3) := by decide +kernel
theorem dX9_abandon_29 : decode cX9_abandon 29 = .ok (.iconst 1, 1) := by decide +kernel
theorem dX9_abandon_30 : decode cX9_abandon 30 = .ok (.goto 4, 3) := by decide +kernel
theorem dX9_abandon_33 : decode cX9_abandon 33 = .ok (.iconst 0, 1) := by decide +kernel
theorem dX9_abandon_34 : decode cX9_abandon 34 = .ok (.invokevirtual 367, 3) := by decide +kernel
theorem dX9_abandon_37 : decode cX9_abandon 37 = .ok (.ifCond .eq 5, 3) := by decide +kernel
theorem dX9_abandon_40 : decode cX9_abandon 40 = .ok (.iconst 0, 1) := by decide +kernel
theorem dX9_abandon_41 : decode cX9_abandon 41 = .ok (.ireturn, 1) := by decide +kernel
theorem dX9_abandon_42 : decode cX9_abandon 42 = .ok (.aload_n 0, 1) := by decide +kernel
theorem dX9_abandon_43 : decode cX9_abandon 43 = .ok (.invokevirtual 361, 3) := by decide +kernel
theorem dX9_abandon_46 : decode cX9_abandon 46 = .ok (.aload_n 0, 1) := by decide +kernel
theorem dX9_abandon_47 : decode cX9_abandon 47 = .ok (.aload_n 0, 1) := by decide +kernel
theorem dX9_abandon_48 : decode cX9_abandon 48 = .ok (.iload_n 1, 1) := by decide +kernel
theorem dX9_abandon_49 : decode cX9_abandon 49 = .ok (.invokevirtual 231, 3) := by decide +kernel
theorem dX9_abandon_52 : decode cX9_abandon 52 = .ok (.invokevirtual 364, 3) := by decide +kernel
theorem dX9_abandon_55 : decode cX9_abandon 55 = .ok (.ireturn, 1) := by decide +kernel
theorem dX9_areCats_0 : decode cX9_areCats 0 = .ok (.aload_n 0, 1) := by decide +kernel
theorem dX9_areCats_1 : decode cX9_areCats 1 = .ok (.iload_n 1, 1) := by decide +kernel
theorem dX9_areCats_2 : decode cX9_areCats 2 = .ok (.invokevirtual 379, 3) := by decide +kernel
theorem dX9_areCats_5 : decode cX9_areCats 5 = .ok (.ifCond .eq 15, 3) := by decide +kernel
theorem dX9_areCats_8 : decode cX9_areCats 8 = .ok (.aload_n 0, 1) := by decide +kernel
theorem dX9_areCats_9 : decode cX9_areCats 9 = .ok (.iload_n 2, 1) := by decide +kernel
theorem dX9_areCats_10 : decode cX9_areCats 10 = .ok (.invokevirtual 379, 3) := by decide +kernel
theorem dX9_areCats_13 : decode cX9_areCats 13 = .ok (.ifCond .eq 7, 3) := by decide +kernel
theorem dX9_areCats_16 : decode cX9_areCats 16 = .ok (.iconst 1, 1) := by decide +kernel
theorem dX9_areCats_17 : decode cX9_areCats 17 = .ok (.goto 4, 3) := by decide +kernel
theorem dX9_areCats_20 : decode cX9_areCats 20 = .ok (.iconst 0, 1) := by decide +kernel
theorem dX9_areCats_21 : decode cX9_areCats 21 = .ok (.ireturn, 1) := by decide +kernel
theorem dX9_chase_0 : decode cX9_chase 0 = .ok (.aload_n 0, 1) := by decide +kernel
theorem dX9_chase_1 : decode cX9_chase 1 = .ok (.iload_n 1, 1) := by decide +kernel
theorem dX9_chase_2 : decode cX9_chase 2 = .ok (.iload_n 2, 1) := by decide +kernel
theorem dX9_chase_3 : decode cX9_chase 3 = .ok (.invokevirtual 385, 3) := by decide +kernel
theorem dX9_chase_6 : decode cX9_chase 6 = .ok (.istore_n 3, 1) := by decide +kernel
theorem dX9_chase_7 : decode cX9_chase 7 = .ok (.aload_n 0, 1) := by decide +kernel
theorem dX9_chase_8 : decode cX9_chase 8 = .ok (.iload_n 3, 1) := by decide +kernel
theorem dX9_chase_9 : decode cX9_chase 9 = .ok (.ifCond .ne 7, 3) := by decide +kernel
theorem dX9_chase_12 : decode cX9_chase 12 = .ok (.iconst 1, 1) := by decide +kernel
theorem dX9_chase_13 : decode cX9_chase 13 = .ok (.goto 4, 3) := by decide +kernel
theorem dX9_chase_16 : decode cX9_chase 16 = .ok (.iconst 0, 1) := by decide +kernel
theorem dX9_chase_17 : decode cX9_chase 17 = .ok (.iload_n 1, 1) := by decide +kernel
theorem dX9_chase_18 : decode cX9_chase 18 = .ok (.iload_n 2, 1) := by decide +kernel
theorem dX9_chase_19 : decode cX9_chase 19 = .ok (.if_icmp .ne 7, 3) := by decide +kernel
theorem dX9_chase_22 : decode cX9_chase 22 = .ok (.iconst 1, 1) := by decide +kernel
theorem dX9_chase_23 : decode cX9_chase 23 = .ok (.goto 4, 3) := by decide +kernel
theorem dX9_chase_26 : decode cX9_chase 26 = .ok (.iconst 0, 1) := by decide +kernel
theorem dX9_chase_27 : decode cX9_chase 27 = .ok (.iload_n 3, 1) := by decide +kernel
theorem dX9_chase_28 : decode cX9_chase 28 = .ok (.ifCond .eq 21, 3) := by decide +kernel
theorem dX9_chase_31 : decode cX9_chase 31 = .ok (.iload_n 1, 1) := by decide +kernel
theorem dX9_chase_32 : decode cX9_chase 32 = .ok (.iload_n 2, 1) := by decide +kernel
theorem dX9_chase_33 : decode cX9_chase 33 = .ok (.if_icmp .eq 16, 3) := by decide +kernel
theorem dX9_chase_36 : decode cX9_chase 36 = .ok (.aload_n 0, 1) := by decide +kernel
theorem dX9_chase_37 : decode cX9_chase 37 = .ok (.iload_n 1, 1) := by decide +kernel
theorem dX9_chase_38 : decode cX9_chase 38 = .ok (.iload_n 2, 1) := by decide +kernel
theorem dX9_chase_39 : decode cX9_chase 39 = .ok (.invokevirtual 234, 3) := by decide +kernel
theorem dX9_chase_42 : decode cX9_chase 42 = .ok (.ifCond .eq 7, 3) := by decide +kernel
theorem dX9_chase_45 : decode cX9_chase 45 = .ok (.iconst 1, 1) := by decide +kernel
theorem dX9_chase_46 : decode cX9_chase 46 = .ok (.goto 4, 3) := by decide +kernel
theorem dX9_chase_49 : decode cX9_chase 49 = .ok (.iconst 0, 1) := by decide +kernel
theorem dX9_chase_50 : decode cX9_chase 50 = .ok (.invokevirtual 373, 3) := by decide +kernel
theorem dX9_chase_53 : decode cX9_chase 53 = .ok (.ifCond .eq 5, 3) := by decide +kernel
theorem dX9_chase_56 : decode cX9_chase 56 = .ok (.iconst 0, 1) := by decide +kernel
theorem dX9_chase_57 : decode cX9_chase 57 = .ok (.ireturn, 1) := by decide +kernel
theorem dX9_chase_58 : decode cX9_chase 58 = .ok (.aload_n 0, 1) := by decide +kernel
theorem dX9_chase_59 : decode cX9_chase 59 = .ok (.invokevirtual 361, 3) := by decide +kernel
theorem dX9_chase_62 : decode cX9_chase 62 = .ok (.aload_n 0, 1) := by decide +kernel
theorem dX9_chase_63 : decode cX9_chase 63 = .ok (.aload_n 0, 1) := by decide +kernel
theorem dX9_chase_64 : decode cX9_chase 64 = .ok (.iload_n 1, 1) := by decide +kernel
theorem dX9_chase_65 : decode cX9_chase 65 = .ok (.iload_n 2, 1) := by decide +kernel
theorem dX9_chase_66 : decode cX9_chase 66 = .ok (.invokevirtual 237, 3) := by decide +kernel
theorem dX9_chase_69 : decode cX9_chase 69 = .ok (.ifCond .eq 7, 3) := by decide +kernel
theorem dX9_chase_72 : decode cX9_chase 72 = .ok (.iconst 1, 1) := by decide +kernel
theorem dX9_chase_73 : decode cX9_chase 73 = .ok (.goto 4, 3) := by decide +kernel
theorem dX9_chase_76 : decode cX9_chase 76 = .ok (.iconst 0, 1) := by decide +kernel
theorem dX9_chase_77 : decode cX9_chase 77 = .ok (.invokevirtual 364, 3) := by decide +kernel
theorem dX9_chase_80 : decode cX9_chase 80 = .ok (.iconst 1, 1) := by decide +kernel
theorem dX9_chase_81 : decode cX9_chase 81 = .ok (.if_icmp .ne 7, 3) := by decide +kernel
theorem dX9_chase_84 : decode cX9_chase 84 = .ok (.iconst 1, 1) := by decide +kernel
theorem dX9_chase_85 : decode cX9_chase 85 = .ok (.goto 4, 3) := by decide +kernel
theorem dX9_chase_88 : decode cX9_chase 88 = .ok (.iconst 0, 1) := by decide +kernel
theorem dX9_chase_89 : decode cX9_chase 89 = .ok (.ireturn, 1) := by decide +kernel
theorem dX9_buyTruce_0 : decode cX9_buyTruce 0 = .ok (.aload_n 0, 1) := by decide +kernel
theorem dX9_buyTruce_1 : decode cX9_buyTruce 1 = .ok (.iload_n 1, 1) := by decide +kernel
theorem dX9_buyTruce_2 : decode cX9_buyTruce 2 = .ok (.iload_n 2, 1) := by decide +kernel
theorem dX9_buyTruce_3 : decode cX9_buyTruce 3 = .ok (.invokevirtual 385, 3) := by decide +kernel
theorem dX9_buyTruce_6 : decode cX9_buyTruce 6 = .ok (.istore 5, 2) := by decide +kernel
theorem dX9_buyTruce_8 : decode cX9_buyTruce 8 = .ok (.iload_n 1, 1) := by decide +kernel
theorem dX9_buyTruce_9 : decode cX9_buyTruce 9 = .ok (.iload_n 2, 1) := by decide +kernel
theorem dX9_buyTruce_10 : decode cX9_buyTruce 10 = .ok (.if_icmp .eq 24, 3) := by decide +kernel
theorem dX9_buyTruce_13 : decode cX9_buyTruce 13 = .ok (.iload_n 3, 1) := by decide +kernel
theorem dX9_buyTruce_14 : decode cX9_buyTruce 14 = .ok (.iconst 1, 1) := by decide +kernel
theorem dX9_buyTruce_15 : decode cX9_buyTruce 15 = .ok (.bipush 9, 2) := by decide +kernel
theorem dX9_buyTruce_17 : decode cX9_buyTruce 17 = .ok (.invokestatic 60, 3) := by decide +kernel
theorem dX9_buyTruce_20 : decode cX9_buyTruce 20 = .ok (.ifCond .eq 14, 3) := by decide +kernel
theorem dX9_buyTruce_23 : decode cX9_buyTruce 23 = .ok (.iload 4, 2) := by decide +kernel
theorem dX9_buyTruce_25 : decode cX9_buyTruce 25 = .ok (.iconst 1, 1) := by decide +kernel
theorem dX9_buyTruce_26 : decode cX9_buyTruce 26 = .ok (.bipush 20, 2) := by decide +kernel
theorem dX9_buyTruce_28 : decode cX9_buyTruce 28 = .ok (.invokestatic 60, 3) := by decide +kernel
theorem dX9_buyTruce_31 : decode cX9_buyTruce 31 = .ok (.ifCond .ne 7, 3) := by decide +kernel
theorem dX9_buyTruce_34 : decode cX9_buyTruce 34 = .ok (.iconst 1, 1) := by decide +kernel
theorem dX9_buyTruce_35 : decode cX9_buyTruce 35 = .ok (.goto 4, 3) := by decide +kernel
theorem dX9_buyTruce_38 : decode cX9_buyTruce 38 = .ok (.iconst 0, 1) := by decide +kernel
theorem dX9_buyTruce_39 : decode cX9_buyTruce 39 = .ok (.istore 6, 2) := by decide +kernel
theorem dX9_buyTruce_41 : decode cX9_buyTruce 41 = .ok (.aload_n 0, 1) := by decide +kernel
theorem dX9_buyTruce_42 : decode cX9_buyTruce 42 = .ok (.iload 5, 2) := by decide +kernel
theorem dX9_buyTruce_44 : decode cX9_buyTruce 44 = .ok (.ifCond .ne 7, 3) := by decide +kernel
theorem dX9_buyTruce_47 : decode cX9_buyTruce 47 = .ok (.iconst 1, 1) := by decide +kernel
theorem dX9_buyTruce_48 : decode cX9_buyTruce 48 = .ok (.goto 4, 3) := by decide +kernel
theorem dX9_buyTruce_51 : decode cX9_buyTruce 51 = .ok (.iconst 0, 1) := by decide +kernel
theorem dX9_buyTruce_52 : decode cX9_buyTruce 52 = .ok (.iload 6, 2) := by decide +kernel
theorem dX9_buyTruce_54 : decode cX9_buyTruce 54 = .ok (.iload 5, 2) := by decide +kernel
theorem dX9_buyTruce_56 : decode cX9_buyTruce 56 = .ok (.ifCond .eq 22, 3) := by decide +kernel
theorem dX9_buyTruce_59 : decode cX9_buyTruce 59 = .ok (.iload 6, 2) := by decide +kernel
theorem dX9_buyTruce_61 : decode cX9_buyTruce 61 = .ok (.ifCond .ne 17, 3) := by decide +kernel
theorem dX9_buyTruce_64 : decode cX9_buyTruce 64 = .ok (.aload_n 0, 1) := by decide +kernel
theorem dX9_buyTruce_65 : decode cX9_buyTruce 65 = .ok (.iload_n 1, 1) := by decide +kernel
theorem dX9_buyTruce_66 : decode cX9_buyTruce 66 = .ok (.iload_n 2, 1) := by decide +kernel
theorem dX9_buyTruce_67 : decode cX9_buyTruce 67 = .ok (.iload_n 3, 1) := by decide +kernel
theorem dX9_buyTruce_68 : decode cX9_buyTruce 68 = .ok (.invokevirtual 241, 3) := by decide +kernel
theorem dX9_buyTruce_71 : decode cX9_buyTruce 71 = .ok (.ifCond .ne 7, 3) := by decide +kernel
theorem dX9_buyTruce_74 : decode cX9_buyTruce 74 = .ok (.iconst 1, 1) := by decide +kernel
theorem dX9_buyTruce_75 : decode cX9_buyTruce 75 = .ok (.goto 4, 3) := by decide +kernel
theorem dX9_buyTruce_78 : decode cX9_buyTruce 78 = .ok (.iconst 0, 1) := by decide +kernel
theorem dX9_buyTruce_79 : decode cX9_buyTruce 79 = .ok (.invokevirtual 373, 3) := by decide +kernel
theorem dX9_buyTruce_82 : decode cX9_buyTruce 82 = .ok (.ifCond .eq 5, 3) := by decide +kernel
theorem dX9_buyTruce_85 : decode cX9_buyTruce 85 = .ok (.iconst 0, 1) := by decide +kernel
theorem dX9_buyTruce_86 : decode cX9_buyTruce 86 = .ok (.ireturn, 1) := by decide +kernel
theorem dX9_buyTruce_87 : decode cX9_buyTruce 87 = .ok (.aload_n 0, 1) := by decide +kernel
theorem dX9_buyTruce_88 : decode cX9_buyTruce 88 = .ok (.invokevirtual 361, 3) := by decide +kernel
theorem dX9_buyTruce_91 : decode cX9_buyTruce 91 = .ok (.aload_n 0, 1) := by decide +kernel
theorem dX9_buyTruce_92 : decode cX9_buyTruce 92 = .ok (.aload_n 0, 1) := by decide +kernel
theorem dX9_buyTruce_93 : decode cX9_buyTruce 93 = .ok (.iload_n 1, 1) := by decide +kernel
theorem dX9_buyTruce_94 : decode cX9_buyTruce 94 = .ok (.iload_n 2, 1) := by decide +kernel
theorem dX9_buyTruce_95 : decode cX9_buyTruce 95 = .ok (.iload_n 3, 1) := by decide +kernel
theorem dX9_buyTruce_96 : decode cX9_buyTruce 96 = .ok (.iload 4, 2) := by decide +kernel
theorem dX9_buyTruce_98 : decode cX9_buyTruce 98 = .ok (.invokevirtual 244, 3) := by decide +kernel
theorem dX9_buyTruce_101 : decode cX9_buyTruce 101 = .ok (.invokevirtual 364, 3) := by decide +kernel
theorem dX9_buyTruce_104 : decode cX9_buyTruce 104 = .ok (.ireturn, 1) := by decide +kernel
theorem dX9_nominate_0 : decode cX9_nominate 0 = .ok (.aload_n 0, 1) := by decide +kernel
theorem dX9_nominate_1 : decode cX9_nominate 1 = .ok (.iload_n 1, 1) := by decide +kernel
theorem dX9_nominate_2 : decode cX9_nominate 2 = .ok (.iload_n 2, 1) := by decide +kernel
theorem dX9_nominate_3 : decode cX9_nominate 3 = .ok (.invokestatic 376, 3) := by decide +kernel
theorem dX9_nominate_6 : decode cX9_nominate 6 = .ok (.ifCond .ne 7, 3) := by decide +kernel
theorem dX9_nominate_9 : decode cX9_nominate 9 = .ok (.iconst 1, 1) := by decide +kernel
theorem dX9_nominate_10 : decode cX9_nominate 10 = .ok (.goto 4, 3) := by decide +kernel
theorem dX9_nominate_13 : decode cX9_nominate 13 = .ok (.iconst 0, 1) := by decide +kernel
theorem dX9_nominate_14 : decode cX9_nominate 14 = .ok (.aload_n 0, 1) := by decide +kernel
theorem dX9_nominate_15 : decode cX9_nominate 15 = .ok (.invokevirtual 248, 3) := by decide +kernel
theorem dX9_nominate_18 : decode cX9_nominate 18 = .ok (.ifCond .ne 7, 3) := by decide +kernel
theorem dX9_nominate_21 : decode cX9_nominate 21 = .ok (.iconst 1, 1) := by decide +kernel
theorem dX9_nominate_22 : decode cX9_nominate 22 = .ok (.goto 4, 3) := by decide +kernel
theorem dX9_nominate_25 : decode cX9_nominate 25 = .ok (.iconst 0, 1) := by decide +kernel
theorem dX9_nominate_26 : decode cX9_nominate 26 = .ok (.invokevirtual 367, 3) := by decide +kernel
theorem dX9_nominate_29 : decode cX9_nominate 29 = .ok (.ifCond .eq 5, 3) := by decide +kernel
theorem dX9_nominate_32 : decode cX9_nominate 32 = .ok (.iconst 0, 1) := by decide +kernel
theorem dX9_nominate_33 : decode cX9_nominate 33 = .ok (.ireturn, 1) := by decide +kernel
theorem dX9_nominate_34 : decode cX9_nominate 34 = .ok (.aload_n 0, 1) := by decide +kernel
theorem dX9_nominate_35 : decode cX9_nominate 35 = .ok (.invokevirtual 361, 3) := by decide +kernel
theorem dX9_nominate_38 : decode cX9_nominate 38 = .ok (.aload_n 0, 1) := by decide +kernel
theorem dX9_nominate_39 : decode cX9_nominate 39 = .ok (.aload_n 0, 1) := by decide +kernel
theorem dX9_nominate_40 : decode cX9_nominate 40 = .ok (.iload_n 1, 1) := by decide +kernel
theorem dX9_nominate_41 : decode cX9_nominate 41 = .ok (.iload_n 2, 1) := by decide +kernel
theorem dX9_nominate_42 : decode cX9_nominate 42 = .ok (.invokevirtual 251, 3) := by decide +kernel
theorem dX9_nominate_45 : decode cX9_nominate 45 = .ok (.invokevirtual 364, 3) := by decide +kernel
theorem dX9_nominate_48 : decode cX9_nominate 48 = .ok (.ireturn, 1) := by decide +kernel
theorem dX9_vote_0 : decode cX9_vote 0 = .ok (.aload_n 0, 1) := by decide +kernel
theorem dX9_vote_1 : decode cX9_vote 1 = .ok (.iload_n 1, 1) := by decide +kernel
theorem dX9_vote_2 : decode cX9_vote 2 = .ok (.invokevirtual 379, 3) := by decide +kernel
theorem dX9_vote_5 : decode cX9_vote 5 = .ok (.istore_n 3, 1) := by decide +kernel
theorem dX9_vote_6 : decode cX9_vote 6 = .ok (.aload_n 0, 1) := by decide +kernel
theorem dX9_vote_7 : decode cX9_vote 7 = .ok (.iload_n 3, 1) := by decide +kernel
theorem dX9_vote_8 : decode cX9_vote 8 = .ok (.ifCond .ne 7, 3) := by decide +kernel
theorem dX9_vote_11 : decode cX9_vote 11 = .ok (.iconst 1, 1) := by decide +kernel
theorem dX9_vote_12 : decode cX9_vote 12 = .ok (.goto 4, 3) := by decide +kernel
theorem dX9_vote_15 : decode cX9_vote 15 = .ok (.iconst 0, 1) := by decide +kernel
theorem dX9_vote_16 : decode cX9_vote 16 = .ok (.iload_n 3, 1) := by decide +kernel
theorem dX9_vote_17 : decode cX9_vote 17 = .ok (.ifCond .eq 15, 3) := by decide +kernel
theorem dX9_vote_20 : decode cX9_vote 20 = .ok (.aload_n 0, 1) := by decide +kernel
theorem dX9_vote_21 : decode cX9_vote 21 = .ok (.iload_n 1, 1) := by decide +kernel
theorem dX9_vote_22 : decode cX9_vote 22 = .ok (.invokevirtual 254, 3) := by decide +kernel
theorem dX9_vote_25 : decode cX9_vote 25 = .ok (.ifCond .ne 7, 3) := by decide +kernel
theorem dX9_vote_28 : decode cX9_vote 28 = .ok (.iconst 1, 1) := by decide +kernel
theorem dX9_vote_29 : decode cX9_vote 29 = .ok (.goto 4, 3) := by decide +kernel
theorem dX9_vote_32 : decode cX9_vote 32 = .ok (.iconst 0, 1) := by decide +kernel
theorem dX9_vote_33 : decode cX9_vote 33 = .ok (.invokevirtual 367, 3) := by decide +kernel
theorem dX9_vote_36 : decode cX9_vote 36 = .ok (.ifCond .eq 5, 3) := by decide +kernel
theorem dX9_vote_39 : decode cX9_vote 39 = .ok (.iconst 0, 1) := by decide +kernel
theorem dX9_vote_40 : decode cX9_vote 40 = .ok (.ireturn, 1) := by decide +kernel
theorem dX9_vote_41 : decode cX9_vote 41 = .ok (.aload_n 0, 1) := by decide +kernel
theorem dX9_vote_42 : decode cX9_vote 42 = .ok (.invokevirtual 361, 3) := by decide +kernel
theorem dX9_vote_45 : decode cX9_vote 45 = .ok (.aload_n 0, 1) := by decide +kernel
theorem dX9_vote_46 : decode cX9_vote 46 = .ok (.aload_n 0, 1) := by decide +kernel
theorem dX9_vote_47 : decode cX9_vote 47 = .ok (.iload_n 1, 1) := by decide +kernel
theorem dX9_vote_48 : decode cX9_vote 48 = .ok (.iload_n 2, 1) := by decide +kernel
theorem dX9_vote_49 : decode cX9_vote 49 = .ok (.invokevirtual 257, 3) := by decide +kernel
theorem dX9_vote_52 : decode cX9_vote 52 = .ok (.ifCond .eq 7, 3) := by decide +kernel
theorem dX9_vote_55 : decode cX9_vote 55 = .ok (.iconst 1, 1) := by decide +kernel
theorem dX9_vote_56 : decode cX9_vote 56 = .ok (.goto 4, 3) := by decide +kernel
theorem dX9_vote_59 : decode cX9_vote 59 = .ok (.iconst 0, 1) := by decide +kernel
theorem dX9_vote_60 : decode cX9_vote 60 = .ok (.invokevirtual 364, 3) := by decide +kernel
theorem dX9_vote_63 : decode cX9_vote 63 = .ok (.iconst 1, 1) := by decide +kernel
theorem dX9_vote_64 : decode cX9_vote 64 = .ok (.if_icmp .ne 7, 3) := by decide +kernel
theorem dX9_vote_67 : decode cX9_vote 67 = .ok (.iconst 1, 1) := by decide +kernel
theorem dX9_vote_68 : decode cX9_vote 68 = .ok (.goto 4, 3) := by decide +kernel
theorem dX9_vote_71 : decode cX9_vote 71 = .ok (.iconst 0, 1) := by decide +kernel
theorem dX9_vote_72 : decode cX9_vote 72 = .ok (.ireturn, 1) := by decide +kernel
theorem dX9_passNights_0 : decode cX9_passNights 0 = .ok (.iload_n 1, 1) := by decide +kernel
theorem dX9_passNights_1 : decode cX9_passNights 1 = .ok (.iconst 1, 1) := by decide +kernel
theorem dX9_passNights_2 : decode cX9_passNights 2 = .ok (.bipush 30, 2) := by decide +kernel
theorem dX9_passNights_4 : decode cX9_passNights 4 = .ok (.invokestatic 60, 3) := by decide +kernel
theorem dX9_passNights_7 : decode cX9_passNights 7 = .ok (.ifCond .ne 7, 3) := by decide +kernel
theorem dX9_passNights_10 : decode cX9_passNights 10 = .ok (.iconst 1, 1) := by decide +kernel
theorem dX9_passNights_11 : decode cX9_passNights 11 = .ok (.goto 4, 3) := by decide +kernel
theorem dX9_passNights_14 : decode cX9_passNights 14 = .ok (.iconst 0, 1) := by decide +kernel
theorem dX9_passNights_15 : decode cX9_passNights 15 = .ok (.istore_n 2, 1) := by decide +kernel
theorem dX9_passNights_16 : decode cX9_passNights 16 = .ok (.aload_n 0, 1) := by decide +kernel
theorem dX9_passNights_17 : decode cX9_passNights 17 = .ok (.iload_n 2, 1) := by decide +kernel
theorem dX9_passNights_18 : decode cX9_passNights 18 = .ok (.iload_n 2, 1) := by decide +kernel
theorem dX9_passNights_19 : decode cX9_passNights 19 = .ok (.ifCond .ne 21, 3) := by decide +kernel
theorem dX9_passNights_22 : decode cX9_passNights 22 = .ok (.aload_n 0, 1) := by decide +kernel
theorem dX9_passNights_23 : decode cX9_passNights 23 = .ok (.getfield 7, 3) := by decide +kernel
theorem dX9_passNights_26 : decode cX9_passNights 26 = .ok (.iconst 3, 1) := by decide +kernel
theorem dX9_passNights_27 : decode cX9_passNights 27 = .ok (.iaload, 1) := by decide +kernel
theorem dX9_passNights_28 : decode cX9_passNights 28 = .ok (.iload_n 1, 1) := by decide +kernel
theorem dX9_passNights_29 : decode cX9_passNights 29 = .ok (.iadd, 1) := by decide +kernel
theorem dX9_passNights_30 : decode cX9_passNights 30 = .ok (.sipush 999, 3) := by decide +kernel
theorem dX9_passNights_33 : decode cX9_passNights 33 = .ok (.if_icmp .le 7, 3) := by decide +kernel
theorem dX9_passNights_36 : decode cX9_passNights 36 = .ok (.iconst 1, 1) := by decide +kernel
theorem dX9_passNights_37 : decode cX9_passNights 37 = .ok (.goto 4, 3) := by decide +kernel
theorem dX9_passNights_40 : decode cX9_passNights 40 = .ok (.iconst 0, 1) := by decide +kernel
theorem dX9_passNights_41 : decode cX9_passNights 41 = .ok (.invokevirtual 367, 3) := by decide +kernel
theorem dX9_passNights_44 : decode cX9_passNights 44 = .ok (.ifCond .eq 5, 3) := by decide +kernel
theorem dX9_passNights_47 : decode cX9_passNights 47 = .ok (.iconst 0, 1) := by decide +kernel
theorem dX9_passNights_48 : decode cX9_passNights 48 = .ok (.ireturn, 1) := by decide +kernel
theorem dX9_passNights_49 : decode cX9_passNights 49 = .ok (.aload_n 0, 1) := by decide +kernel
theorem dX9_passNights_50 : decode cX9_passNights 50 = .ok (.invokevirtual 361, 3) := by decide +kernel
theorem dX9_passNights_53 : decode cX9_passNights 53 = .ok (.aload_n 0, 1) := by decide +kernel
theorem dX9_passNights_54 : decode cX9_passNights 54 = .ok (.aload_n 0, 1) := by decide +kernel
theorem dX9_passNights_55 : decode cX9_passNights 55 = .ok (.iload_n 1, 1) := by decide +kernel
theorem dX9_passNights_56 : decode cX9_passNights 56 = .ok (.invokevirtual 261, 3) := by decide +kernel
theorem dX9_passNights_59 : decode cX9_passNights 59 = .ok (.invokevirtual 364, 3) := by decide +kernel
theorem dX9_passNights_62 : decode cX9_passNights 62 = .ok (.ireturn, 1) := by decide +kernel
theorem dX9_undo_0 : decode cX9_undo 0 = .ok (.aload_n 0, 1) := by decide +kernel
theorem dX9_undo_1 : decode cX9_undo 1 = .ok (.iconst 0, 1) := by decide +kernel
theorem dX9_undo_2 : decode cX9_undo 2 = .ok (.putfield 57, 3) := by decide +kernel
theorem dX9_undo_5 : decode cX9_undo 5 = .ok (.aload_n 0, 1) := by decide +kernel
theorem dX9_undo_6 : decode cX9_undo 6 = .ok (.getfield 358, 3) := by decide +kernel
theorem dX9_undo_9 : decode cX9_undo 9 = .ok (.ifCond .ne 5, 3) := by decide +kernel
theorem dX9_undo_12 : decode cX9_undo 12 = .ok (.iconst (-1), 1) := by decide +kernel
theorem dX9_undo_13 : decode cX9_undo 13 = .ok (.ireturn, 1) := by decide +kernel
theorem dX9_undo_14 : decode cX9_undo 14 = .ok (.aload_n 0, 1) := by decide +kernel
theorem dX9_undo_15 : decode cX9_undo 15 = .ok (.dup, 1) := by decide +kernel
theorem dX9_undo_16 : decode cX9_undo 16 = .ok (.getfield 358, 3) := by decide +kernel
theorem dX9_undo_19 : decode cX9_undo 19 = .ok (.iconst 1, 1) := by decide +kernel
theorem dX9_undo_20 : decode cX9_undo 20 = .ok (.isub, 1) := by decide +kernel
theorem dX9_undo_21 : decode cX9_undo 21 = .ok (.putfield 358, 3) := by decide +kernel
theorem dX9_undo_24 : decode cX9_undo 24 = .ok (.iconst 0, 1) := by decide +kernel
theorem dX9_undo_25 : decode cX9_undo 25 = .ok (.istore_n 1, 1) := by decide +kernel
theorem dX9_undo_26 : decode cX9_undo 26 = .ok (.iload_n 1, 1) := by decide +kernel
theorem dX9_undo_27 : decode cX9_undo 27 = .ok (.sipush 186, 3) := by decide +kernel
theorem dX9_undo_30 : decode cX9_undo 30 = .ok (.if_icmp .ge 30, 3) := by decide +kernel
theorem dX9_undo_33 : decode cX9_undo 33 = .ok (.aload_n 0, 1) := by decide +kernel
theorem dX9_undo_34 : decode cX9_undo 34 = .ok (.getfield 7, 3) := by decide +kernel
theorem dX9_undo_37 : decode cX9_undo 37 = .ok (.iload_n 1, 1) := by decide +kernel
theorem dX9_undo_38 : decode cX9_undo 38 = .ok (.aload_n 0, 1) := by decide +kernel
theorem dX9_undo_39 : decode cX9_undo 39 = .ok (.getfield 19, 3) := by decide +kernel
theorem dX9_undo_42 : decode cX9_undo 42 = .ok (.sipush 186, 3) := by decide +kernel
theorem dX9_undo_45 : decode cX9_undo 45 = .ok (.aload_n 0, 1) := by decide +kernel
theorem dX9_undo_46 : decode cX9_undo 46 = .ok (.getfield 358, 3) := by decide +kernel
theorem dX9_undo_49 : decode cX9_undo 49 = .ok (.imul, 1) := by decide +kernel
theorem dX9_undo_50 : decode cX9_undo 50 = .ok (.iload_n 1, 1) := by decide +kernel
theorem dX9_undo_51 : decode cX9_undo 51 = .ok (.iadd, 1) := by decide +kernel
theorem dX9_undo_52 : decode cX9_undo 52 = .ok (.iaload, 1) := by decide +kernel
theorem dX9_undo_53 : decode cX9_undo 53 = .ok (.iastore, 1) := by decide +kernel
theorem dX9_undo_54 : decode cX9_undo 54 = .ok (.iinc 1 1, 3) := by decide +kernel
theorem dX9_undo_57 : decode cX9_undo 57 = .ok (.goto (-31), 3) := by decide +kernel
theorem dX9_undo_60 : decode cX9_undo 60 = .ok (.aload_n 0, 1) := by decide +kernel
theorem dX9_undo_61 : decode cX9_undo 61 = .ok (.getfield 358, 3) := by decide +kernel
theorem dX9_undo_64 : decode cX9_undo 64 = .ok (.ireturn, 1) := by decide +kernel
theorem dX9_undoCount_0 : decode cX9_undoCount 0 = .ok (.aload_n 0, 1) := by decide +kernel
theorem dX9_undoCount_1 : decode cX9_undoCount 1 = .ok (.iconst 0, 1) := by decide +kernel
theorem dX9_undoCount_2 : decode cX9_undoCount 2 = .ok (.putfield 57, 3) := by decide +kernel
theorem dX9_undoCount_5 : decode cX9_undoCount 5 = .ok (.aload_n 0, 1) := by decide +kernel
theorem dX9_undoCount_6 : decode cX9_undoCount 6 = .ok (.getfield 358, 3) := by decide +kernel
theorem dX9_undoCount_9 : decode cX9_undoCount 9 = .ok (.ireturn, 1) := by decide +kernel
theorem dX9_saveSnapshot_0 : decode cX9_saveSnapshot 0 = .ok (.aload_n 0, 1) := by decide +kernel
theorem dX9_saveSnapshot_1 : decode cX9_saveSnapshot 1 = .ok (.iconst 0, 1) := by decide +kernel
theorem dX9_saveSnapshot_2 : decode cX9_saveSnapshot 2 = .ok (.putfield 57, 3) := by decide +kernel
theorem dX9_saveSnapshot_5 : decode cX9_saveSnapshot 5 = .ok (.aload_n 0, 1) := by decide +kernel
theorem dX9_saveSnapshot_6 : decode cX9_saveSnapshot 6 = .ok (.iconst 1, 1) := by decide +kernel
theorem dX9_saveSnapshot_7 : decode cX9_saveSnapshot 7 = .ok (.putfield 388, 3) := by decide +kernel
theorem dX9_saveSnapshot_10 : decode cX9_saveSnapshot 10 = .ok (.iconst 0, 1) := by decide +kernel
theorem dX9_saveSnapshot_11 : decode cX9_saveSnapshot 11 = .ok (.istore_n 1, 1) := by decide +kernel
theorem dX9_saveSnapshot_12 : decode cX9_saveSnapshot 12 = .ok (.iload_n 1, 1) := by decide +kernel
theorem dX9_saveSnapshot_13 : decode cX9_saveSnapshot 13 = .ok (.sipush 186, 3) := by decide +kernel
theorem dX9_saveSnapshot_16 : decode cX9_saveSnapshot 16 = .ok (.if_icmp .ge 21, 3) := by decide +kernel
theorem dX9_saveSnapshot_19 : decode cX9_saveSnapshot 19 = .ok (.aload_n 0, 1) := by decide +kernel
theorem dX9_saveSnapshot_20 : decode cX9_saveSnapshot 20 = .ok (.getfield 22, 3) := by decide +kernel
theorem dX9_saveSnapshot_23 : decode cX9_saveSnapshot 23 = .ok (.iload_n 1, 1) := by decide +kernel
theorem dX9_saveSnapshot_24 : decode cX9_saveSnapshot 24 = .ok (.aload_n 0, 1) := by decide +kernel
theorem dX9_saveSnapshot_25 : decode cX9_saveSnapshot 25 = .ok (.getfield 7, 3) := by decide +kernel
theorem dX9_saveSnapshot_28 : decode cX9_saveSnapshot 28 = .ok (.iload_n 1, 1) := by decide +kernel
theorem dX9_saveSnapshot_29 : decode cX9_saveSnapshot 29 = .ok (.iaload, 1) := by decide +kernel
theorem dX9_saveSnapshot_30 : decode cX9_saveSnapshot 30 = .ok (.iastore, 1) := by decide +kernel
theorem dX9_saveSnapshot_31 : decode cX9_saveSnapshot 31 = .ok (.iinc 1 1, 3) := by decide +kernel
theorem dX9_saveSnapshot_34 : decode cX9_saveSnapshot 34 = .ok (.goto (-22), 3) := by decide +kernel
theorem dX9_saveSnapshot_37 : decode cX9_saveSnapshot 37 = .ok (.aload_n 0, 1) := by decide +kernel
theorem dX9_saveSnapshot_38 : decode cX9_saveSnapshot 38 = .ok (.getfield 7, 3) := by decide +kernel
theorem dX9_saveSnapshot_41 : decode cX9_saveSnapshot 41 = .ok (.iconst 3, 1) := by decide +kernel
theorem dX9_saveSnapshot_42 : decode cX9_saveSnapshot 42 = .ok (.iaload, 1) := by decide +kernel
theorem dX9_saveSnapshot_43 : decode cX9_saveSnapshot 43 = .ok (.ireturn, 1) := by decide +kernel
theorem dX9_restoreSnapshot_0 : decode cX9_restoreSnapshot 0 = .ok (.aload_n 0, 1) := by decide +kernel
theorem dX9_restoreSnapshot_1 : decode cX9_restoreSnapshot 1 = .ok (.aload_n 0, 1) := by decide +kernel
theorem dX9_restoreSnapshot_2 : decode cX9_restoreSnapshot 2 = .ok (.getfield 388, 3) := by decide +kernel
theorem dX9_restoreSnapshot_5 : decode cX9_restoreSnapshot 5 = .ok (.ifCond .ne 7, 3) := by decide +kernel
theorem dX9_restoreSnapshot_8 : decode cX9_restoreSnapshot 8 = .ok (.iconst 1, 1) := by decide +kernel
theorem dX9_restoreSnapshot_9 : decode cX9_restoreSnapshot 9 = .ok (.goto 4, 3) := by decide +kernel
theorem dX9_restoreSnapshot_12 : decode cX9_restoreSnapshot 12 = .ok (.iconst 0, 1) := by decide +kernel
theorem dX9_restoreSnapshot_13 : decode cX9_restoreSnapshot 13 = .ok (.invokevirtual 355, 3) := by decide +kernel
theorem dX9_restoreSnapshot_16 : decode cX9_restoreSnapshot 16 = .ok (.ifCond .eq 5, 3) := by decide +kernel
theorem dX9_restoreSnapshot_19 : decode cX9_restoreSnapshot 19 = .ok (.iconst 0, 1) := by decide +kernel
theorem dX9_restoreSnapshot_20 : decode cX9_restoreSnapshot 20 = .ok (.ireturn, 1) := by decide +kernel
theorem dX9_restoreSnapshot_21 : decode cX9_restoreSnapshot 21 = .ok (.iconst 0, 1) := by decide +kernel
theorem dX9_restoreSnapshot_22 : decode cX9_restoreSnapshot 22 = .ok (.istore_n 1, 1) := by decide +kernel
theorem dX9_restoreSnapshot_23 : decode cX9_restoreSnapshot 23 = .ok (.iload_n 1, 1) := by decide +kernel
theorem dX9_restoreSnapshot_24 : decode cX9_restoreSnapshot 24 = .ok (.sipush 186, 3) := by decide +kernel
theorem dX9_restoreSnapshot_27 : decode cX9_restoreSnapshot 27 = .ok (.if_icmp .ge 21, 3) := by decide +kernel
theorem dX9_restoreSnapshot_30 : decode cX9_restoreSnapshot 30 = .ok (.aload_n 0, 1) := by decide +kernel
theorem dX9_restoreSnapshot_31 : decode cX9_restoreSnapshot 31 = .ok (.getfield 7, 3) := by decide +kernel
theorem dX9_restoreSnapshot_34 : decode cX9_restoreSnapshot 34 = .ok (.iload_n 1, 1) := by decide +kernel
theorem dX9_restoreSnapshot_35 : decode cX9_restoreSnapshot 35 = .ok (.aload_n 0, 1) := by decide +kernel
theorem dX9_restoreSnapshot_36 : decode cX9_restoreSnapshot 36 = .ok (.getfield 22, 3) := by decide +kernel
theorem dX9_restoreSnapshot_39 : decode cX9_restoreSnapshot 39 = .ok (.iload_n 1, 1) := by decide +kernel
