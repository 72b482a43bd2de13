theorem dX9_restoreSnapshot_40 : decode cX9_restoreSnapshot 40 = .ok (.iaload, 1) := by decide +kernel
theorem dX9_restoreSnapshot_41 : decode cX9_restoreSnapshot 41 = .ok (.iastore, 1) := by decide +kernel
theorem dX9_restoreSnapshot_42 : decode cX9_restoreSnapshot 42 = .ok (.iinc 1 1, 3) := by decide +kernel
theorem dX9_restoreSnapshot_45 : decode cX9_restoreSnapshot 45 = .ok (.goto (-22), 3) := by decide +kernel
theorem dX9_restoreSnapshot_48 : decode cX9_restoreSnapshot 48 = .ok (.aload_n 0, 1) := by decide +kernel
theorem dX9_restoreSnapshot_49 : decode cX9_restoreSnapshot 49 = .ok (.iconst 0, 1) := by decide +kernel
theorem dX9_restoreSnapshot_50 : decode cX9_restoreSnapshot 50 = .ok (.putfield 358, 3) := by decide +kernel
theorem dX9_restoreSnapshot_53 : decode cX9_restoreSnapshot 53 = .ok (.aload_n 0, 1) := by decide +kernel
theorem dX9_restoreSnapshot_54 : decode cX9_restoreSnapshot 54 = .ok (.getfield 7, 3) := by decide +kernel
theorem dX9_restoreSnapshot_57 : decode cX9_restoreSnapshot 57 = .ok (.iconst 3, 1) := by decide +kernel
theorem dX9_restoreSnapshot_58 : decode cX9_restoreSnapshot 58 = .ok (.iaload, 1) := by decide +kernel
theorem dX9_restoreSnapshot_59 : decode cX9_restoreSnapshot 59 = .ok (.ireturn, 1) := by decide +kernel
theorem dX9_scriptErrorKind_0 : decode cX9_scriptErrorKind 0 = .ok (.aload_n 0, 1) := by decide +kernel
theorem dX9_scriptErrorKind_1 : decode cX9_scriptErrorKind 1 = .ok (.iconst 0, 1) := by decide +kernel
theorem dX9_scriptErrorKind_2 : decode cX9_scriptErrorKind 2 = .ok (.putfield 57, 3) := by decide +kernel
theorem dX9_scriptErrorKind_5 : decode cX9_scriptErrorKind 5 = .ok (.aload_n 0, 1) := by decide +kernel
theorem dX9_scriptErrorKind_6 : decode cX9_scriptErrorKind 6 = .ok (.getfield 179, 3) := by decide +kernel
theorem dX9_scriptErrorKind_9 : decode cX9_scriptErrorKind 9 = .ok (.ireturn, 1) := by decide +kernel
theorem dX9_scriptErrorOffset_0 : decode cX9_scriptErrorOffset 0 = .ok (.aload_n 0, 1) := by decide +kernel
theorem dX9_scriptErrorOffset_1 : decode cX9_scriptErrorOffset 1 = .ok (.iconst 0, 1) := by decide +kernel
theorem dX9_scriptErrorOffset_2 : decode cX9_scriptErrorOffset 2 = .ok (.putfield 57, 3) := by decide +kernel
theorem dX9_scriptErrorOffset_5 : decode cX9_scriptErrorOffset 5 = .ok (.aload_n 0, 1) := by decide +kernel
theorem dX9_scriptErrorOffset_6 : decode cX9_scriptErrorOffset 6 = .ok (.getfield 34, 3) := by decide +kernel
theorem dX9_scriptErrorOffset_9 : decode cX9_scriptErrorOffset 9 = .ok (.ireturn, 1) := by decide +kernel
theorem dX9_told_0 : decode cX9_told 0 = .ok (.aload_n 0, 1) := by decide +kernel
theorem dX9_told_1 : decode cX9_told 1 = .ok (.iconst 0, 1) := by decide +kernel
theorem dX9_told_2 : decode cX9_told 2 = .ok (.putfield 57, 3) := by decide +kernel
theorem dX9_told_5 : decode cX9_told 5 = .ok (.aload_n 0, 1) := by decide +kernel
theorem dX9_told_6 : decode cX9_told 6 = .ok (.getfield 7, 3) := by decide +kernel
theorem dX9_told_9 : decode cX9_told 9 = .ok (.iload_n 1, 1) := by decide +kernel
theorem dX9_told_10 : decode cX9_told 10 = .ok (.iaload, 1) := by decide +kernel
theorem dX9_told_11 : decode cX9_told 11 = .ok (.ireturn, 1) := by decide +kernel
theorem dX9_chimneyCount_0 : decode cX9_chimneyCount 0 = .ok (.aload_n 0, 1) := by decide +kernel
theorem dX9_chimneyCount_1 : decode cX9_chimneyCount 1 = .ok (.iconst 0, 1) := by decide +kernel
theorem dX9_chimneyCount_2 : decode cX9_chimneyCount 2 = .ok (.invokevirtual 392, 3) := by decide +kernel
theorem dX9_chimneyCount_5 : decode cX9_chimneyCount 5 = .ok (.ireturn, 1) := by decide +kernel
theorem dX9_gutterCount_0 : decode cX9_gutterCount 0 = .ok (.aload_n 0, 1) := by decide +kernel
theorem dX9_gutterCount_1 : decode cX9_gutterCount 1 = .ok (.iconst 1, 1) := by decide +kernel
theorem dX9_gutterCount_2 : decode cX9_gutterCount 2 = .ok (.invokevirtual 392, 3) := by decide +kernel
theorem dX9_gutterCount_5 : decode cX9_gutterCount 5 = .ok (.ireturn, 1) := by decide +kernel
theorem dX9_catCount_0 : decode cX9_catCount 0 = .ok (.aload_n 0, 1) := by decide +kernel
theorem dX9_catCount_1 : decode cX9_catCount 1 = .ok (.iconst 2, 1) := by decide +kernel
theorem dX9_catCount_2 : decode cX9_catCount 2 = .ok (.invokevirtual 392, 3) := by decide +kernel
theorem dX9_catCount_5 : decode cX9_catCount 5 = .ok (.ireturn, 1) := by decide +kernel
theorem dX9_night_0 : decode cX9_night 0 = .ok (.aload_n 0, 1) := by decide +kernel
theorem dX9_night_1 : decode cX9_night 1 = .ok (.iconst 3, 1) := by decide +kernel
theorem dX9_night_2 : decode cX9_night 2 = .ok (.invokevirtual 392, 3) := by decide +kernel
theorem dX9_night_5 : decode cX9_night 5 = .ok (.ireturn, 1) := by decide +kernel
theorem dX9_moonPhase_0 : decode cX9_moonPhase 0 = .ok (.aload_n 0, 1) := by decide +kernel
theorem dX9_moonPhase_1 : decode cX9_moonPhase 1 = .ok (.iconst 3, 1) := by decide +kernel
theorem dX9_moonPhase_2 : decode cX9_moonPhase 2 = .ok (.invokevirtual 392, 3) := by decide +kernel
theorem dX9_moonPhase_5 : decode cX9_moonPhase 5 = .ok (.bipush 8, 2) := by decide +kernel
theorem dX9_moonPhase_7 : decode cX9_moonPhase 7 = .ok (.irem, 1) := by decide +kernel
theorem dX9_moonPhase_8 : decode cX9_moonPhase 8 = .ok (.ireturn, 1) := by decide +kernel
theorem dX9_warmth_0 : decode cX9_warmth 0 = .ok (.aload_n 0, 1) := by decide +kernel
theorem dX9_warmth_1 : decode cX9_warmth 1 = .ok (.aload_n 0, 1) := by decide +kernel
theorem dX9_warmth_2 : decode cX9_warmth 2 = .ok (.iload_n 1, 1) := by decide +kernel
theorem dX9_warmth_3 : decode cX9_warmth 3 = .ok (.invokevirtual 370, 3) := by decide +kernel
theorem dX9_warmth_6 : decode cX9_warmth 6 = .ok (.ifCond .ne 7, 3) := by decide +kernel
theorem dX9_warmth_9 : decode cX9_warmth 9 = .ok (.iconst 1, 1) := by decide +kernel
theorem dX9_warmth_10 : decode cX9_warmth 10 = .ok (.goto 4, 3) := by decide +kernel
theorem dX9_warmth_13 : decode cX9_warmth 13 = .ok (.iconst 0, 1) := by decide +kernel
theorem dX9_warmth_14 : decode cX9_warmth 14 = .ok (.invokevirtual 355, 3) := by decide +kernel
theorem dX9_warmth_17 : decode cX9_warmth 17 = .ok (.ifCond .eq 7, 3) := by decide +kernel
theorem dX9_warmth_20 : decode cX9_warmth 20 = .ok (.iconst 0, 1) := by decide +kernel
theorem dX9_warmth_21 : decode cX9_warmth 21 = .ok (.goto 12, 3) := by decide +kernel
theorem dX9_warmth_24 : decode cX9_warmth 24 = .ok (.aload_n 0, 1) := by decide +kernel
theorem dX9_warmth_25 : decode cX9_warmth 25 = .ok (.getfield 7, 3) := by decide +kernel
theorem dX9_warmth_28 : decode cX9_warmth 28 = .ok (.bipush 10, 2) := by decide +kernel
theorem dX9_warmth_30 : decode cX9_warmth 30 = .ok (.iload_n 1, 1) := by decide +kernel
theorem dX9_warmth_31 : decode cX9_warmth 31 = .ok (.iadd, 1) := by decide +kernel
theorem dX9_warmth_32 : decode cX9_warmth 32 = .ok (.iaload, 1) := by decide +kernel
theorem dX9_warmth_33 : decode cX9_warmth 33 = .ok (.ireturn, 1) := by decide +kernel
theorem dX9_ownerOf_0 : decode cX9_ownerOf 0 = .ok (.aload_n 0, 1) := by decide +kernel
theorem dX9_ownerOf_1 : decode cX9_ownerOf 1 = .ok (.aload_n 0, 1) := by decide +kernel
theorem dX9_ownerOf_2 : decode cX9_ownerOf 2 = .ok (.iload_n 1, 1) := by decide +kernel
theorem dX9_ownerOf_3 : decode cX9_ownerOf 3 = .ok (.invokevirtual 370, 3) := by decide +kernel
theorem dX9_ownerOf_6 : decode cX9_ownerOf 6 = .ok (.ifCond .ne 7, 3) := by decide +kernel
theorem dX9_ownerOf_9 : decode cX9_ownerOf 9 = .ok (.iconst 1, 1) := by decide +kernel
theorem dX9_ownerOf_10 : decode cX9_ownerOf 10 = .ok (.goto 4, 3) := by decide +kernel
theorem dX9_ownerOf_13 : decode cX9_ownerOf 13 = .ok (.iconst 0, 1) := by decide +kernel
theorem dX9_ownerOf_14 : decode cX9_ownerOf 14 = .ok (.invokevirtual 355, 3) := by decide +kernel
theorem dX9_ownerOf_17 : decode cX9_ownerOf 17 = .ok (.ifCond .eq 7, 3) := by decide +kernel
theorem dX9_ownerOf_20 : decode cX9_ownerOf 20 = .ok (.iconst 0, 1) := by decide +kernel
theorem dX9_ownerOf_21 : decode cX9_ownerOf 21 = .ok (.goto 8, 3) := by decide +kernel
theorem dX9_ownerOf_24 : decode cX9_ownerOf 24 = .ok (.aload_n 0, 1) := by decide +kernel
theorem dX9_ownerOf_25 : decode cX9_ownerOf 25 = .ok (.iload_n 1, 1) := by decide +kernel
theorem dX9_ownerOf_26 : decode cX9_ownerOf 26 = .ok (.invokevirtual 68, 3) := by decide +kernel
theorem dX9_ownerOf_29 : decode cX9_ownerOf 29 = .ok (.ireturn, 1) := by decide +kernel
theorem dX9_catOn_0 : decode cX9_catOn 0 = .ok (.aload_n 0, 1) := by decide +kernel
theorem dX9_catOn_1 : decode cX9_catOn 1 = .ok (.aload_n 0, 1) := by decide +kernel
theorem dX9_catOn_2 : decode cX9_catOn 2 = .ok (.iload_n 1, 1) := by decide +kernel
theorem dX9_catOn_3 : decode cX9_catOn 3 = .ok (.invokevirtual 370, 3) := by decide +kernel
theorem dX9_catOn_6 : decode cX9_catOn 6 = .ok (.ifCond .ne 7, 3) := by decide +kernel
theorem dX9_catOn_9 : decode cX9_catOn 9 = .ok (.iconst 1, 1) := by decide +kernel
theorem dX9_catOn_10 : decode cX9_catOn 10 = .ok (.goto 4, 3) := by decide +kernel
theorem dX9_catOn_13 : decode cX9_catOn 13 = .ok (.iconst 0, 1) := by decide +kernel
theorem dX9_catOn_14 : decode cX9_catOn 14 = .ok (.invokevirtual 355, 3) := by decide +kernel
theorem dX9_catOn_17 : decode cX9_catOn 17 = .ok (.ifCond .eq 7, 3) := by decide +kernel
theorem dX9_catOn_20 : decode cX9_catOn 20 = .ok (.iconst 0, 1) := by decide +kernel
theorem dX9_catOn_21 : decode cX9_catOn 21 = .ok (.goto 8, 3) := by decide +kernel
theorem dX9_catOn_24 : decode cX9_catOn 24 = .ok (.aload_n 0, 1) := by decide +kernel
theorem dX9_catOn_25 : decode cX9_catOn 25 = .ok (.iload_n 1, 1) := by decide +kernel
theorem dX9_catOn_26 : decode cX9_catOn 26 = .ok (.invokevirtual 87, 3) := by decide +kernel
theorem dX9_catOn_29 : decode cX9_catOn 29 = .ok (.ireturn, 1) := by decide +kernel
theorem dX9_gutterEnds_0 : decode cX9_gutterEnds 0 = .ok (.aload_n 0, 1) := by decide +kernel
theorem dX9_gutterEnds_1 : decode cX9_gutterEnds 1 = .ok (.aload_n 0, 1) := by decide +kernel
theorem dX9_gutterEnds_2 : decode cX9_gutterEnds 2 = .ok (.iload_n 1, 1) := by decide +kernel
theorem dX9_gutterEnds_3 : decode cX9_gutterEnds 3 = .ok (.invokevirtual 382, 3) := by decide +kernel
theorem dX9_gutterEnds_6 : decode cX9_gutterEnds 6 = .ok (.ifCond .ne 7, 3) := by decide +kernel
theorem dX9_gutterEnds_9 : decode cX9_gutterEnds 9 = .ok (.iconst 1, 1) := by decide +kernel
theorem dX9_gutterEnds_10 : decode cX9_gutterEnds 10 = .ok (.goto 4, 3) := by decide +kernel
theorem dX9_gutterEnds_13 : decode cX9_gutterEnds 13 = .ok (.iconst 0, 1) := by decide +kernel
theorem dX9_gutterEnds_14 : decode cX9_gutterEnds 14 = .ok (.invokevirtual 355, 3) := by decide +kernel
theorem dX9_gutterEnds_17 : decode cX9_gutterEnds 17 = .ok (.ifCond .eq 7, 3) := by decide +kernel
theorem dX9_gutterEnds_20 : decode cX9_gutterEnds 20 = .ok (.iconst 0, 1) := by decide +kernel
theorem dX9_gutterEnds_21 : decode cX9_gutterEnds 21 = .ok (.goto 20, 3) := by decide +kernel
theorem dX9_gutterEnds_24 : decode cX9_gutterEnds 24 = .ok (.iconst 1, 1) := by decide +kernel
theorem dX9_gutterEnds_25 : decode cX9_gutterEnds 25 = .ok (.aload_n 0, 1) := by decide +kernel
theorem dX9_gutterEnds_26 : decode cX9_gutterEnds 26 = .ok (.iload_n 1, 1) := by decide +kernel
theorem dX9_gutterEnds_27 : decode cX9_gutterEnds 27 = .ok (.iconst 0, 1) := by decide +kernel
theorem dX9_gutterEnds_28 : decode cX9_gutterEnds 28 = .ok (.invokevirtual 81, 3) := by decide +kernel
theorem dX9_gutterEnds_31 : decode cX9_gutterEnds 31 = .ok (.ishl, 1) := by decide +kernel
theorem dX9_gutterEnds_32 : decode cX9_gutterEnds 32 = .ok (.iconst 1, 1) := by decide +kernel
theorem dX9_gutterEnds_33 : decode cX9_gutterEnds 33 = .ok (.aload_n 0, 1) := by decide +kernel
theorem dX9_gutterEnds_34 : decode cX9_gutterEnds 34 = .ok (.iload_n 1, 1) := by decide +kernel
theorem dX9_gutterEnds_35 : decode cX9_gutterEnds 35 = .ok (.iconst 1, 1) := by decide +kernel
theorem dX9_gutterEnds_36 : decode cX9_gutterEnds 36 = .ok (.invokevirtual 81, 3) := by decide +kernel
theorem dX9_gutterEnds_39 : decode cX9_gutterEnds 39 = .ok (.ishl, 1) := by decide +kernel
theorem dX9_gutterEnds_40 : decode cX9_gutterEnds 40 = .ok (.ior, 1) := by decide +kernel
theorem dX9_gutterEnds_41 : decode cX9_gutterEnds 41 = .ok (.ireturn, 1) := by decide +kernel
theorem dX9_width_0 : decode cX9_width 0 = .ok (.aload_n 0, 1) := by decide +kernel
theorem dX9_width_1 : decode cX9_width 1 = .ok (.aload_n 0, 1) := by decide +kernel
theorem dX9_width_2 : decode cX9_width 2 = .ok (.iload_n 1, 1) := by decide +kernel
theorem dX9_width_3 : decode cX9_width 3 = .ok (.invokevirtual 382, 3) := by decide +kernel
theorem dX9_width_6 : decode cX9_width 6 = .ok (.ifCond .ne 7, 3) := by decide +kernel
theorem dX9_width_9 : decode cX9_width 9 = .ok (.iconst 1, 1) := by decide +kernel
theorem dX9_width_10 : decode cX9_width 10 = .ok (.goto 4, 3) := by decide +kernel
theorem dX9_width_13 : decode cX9_width 13 = .ok (.iconst 0, 1) := by decide +kernel
theorem dX9_width_14 : decode cX9_width 14 = .ok (.invokevirtual 355, 3) := by decide +kernel
theorem dX9_width_17 : decode cX9_width 17 = .ok (.ifCond .eq 7, 3) := by decide +kernel
theorem dX9_width_20 : decode cX9_width 20 = .ok (.iconst 0, 1) := by decide +kernel
theorem dX9_width_21 : decode cX9_width 21 = .ok (.goto 9, 3) := by decide +kernel
theorem dX9_width_24 : decode cX9_width 24 = .ok (.aload_n 0, 1) := by decide +kernel
theorem dX9_width_25 : decode cX9_width 25 = .ok (.iload_n 1, 1) := by decide +kernel
theorem dX9_width_26 : decode cX9_width 26 = .ok (.iconst 2, 1) := by decide +kernel
theorem dX9_width_27 : decode cX9_width 27 = .ok (.invokevirtual 81, 3) := by decide +kernel
theorem dX9_width_30 : decode cX9_width 30 = .ok (.ireturn, 1) := by decide +kernel
theorem dX9_widestWay_0 : decode cX9_widestWay 0 = .ok (.aload_n 0, 1) := by decide +kernel
theorem dX9_widestWay_1 : decode cX9_widestWay 1 = .ok (.aload_n 0, 1) := by decide +kernel
theorem dX9_widestWay_2 : decode cX9_widestWay 2 = .ok (.iload_n 1, 1) := by decide +kernel
theorem dX9_widestWay_3 : decode cX9_widestWay 3 = .ok (.invokevirtual 370, 3) := by decide +kernel
theorem dX9_widestWay_6 : decode cX9_widestWay 6 = .ok (.ifCond .eq 11, 3) := by decide +kernel
theorem dX9_widestWay_9 : decode cX9_widestWay 9 = .ok (.aload_n 0, 1) := by decide +kernel
theorem dX9_widestWay_10 : decode cX9_widestWay 10 = .ok (.iload_n 2, 1) := by decide +kernel
theorem dX9_widestWay_11 : decode cX9_widestWay 11 = .ok (.invokevirtual 370, 3) := by decide +kernel
theorem dX9_widestWay_14 : decode cX9_widestWay 14 = .ok (.ifCond .ne 7, 3) := by decide +kernel
theorem dX9_widestWay_17 : decode cX9_widestWay 17 = .ok (.iconst 1, 1) := by decide +kernel
theorem dX9_widestWay_18 : decode cX9_widestWay 18 = .ok (.goto 4, 3) := by decide +kernel
theorem dX9_widestWay_21 : decode cX9_widestWay 21 = .ok (.iconst 0, 1) := by decide +kernel
theorem dX9_widestWay_22 : decode cX9_widestWay 22 = .ok (.invokevirtual 355, 3) := by decide +kernel
theorem dX9_widestWay_25 : decode cX9_widestWay 25 = .ok (.ifCond .eq 5, 3) := by decide +kernel
theorem dX9_widestWay_28 : decode cX9_widestWay 28 = .ok (.iconst 0, 1) := by decide +kernel
theorem dX9_widestWay_29 : decode cX9_widestWay 29 = .ok (.ireturn, 1) := by decide +kernel
theorem dX9_widestWay_30 : decode cX9_widestWay 30 = .ok (.bipush 9, 2) := by decide +kernel
theorem dX9_widestWay_32 : decode cX9_widestWay 32 = .ok (.istore_n 3, 1) := by decide +kernel
theorem dX9_widestWay_33 : decode cX9_widestWay 33 = .ok (.iload_n 3, 1) := by decide +kernel
theorem dX9_widestWay_34 : decode cX9_widestWay 34 = .ok (.ifCond .le 25, 3) := by decide +kernel
theorem dX9_widestWay_37 : decode cX9_widestWay 37 = .ok (.aload_n 0, 1) := by decide +kernel
theorem dX9_widestWay_38 : decode cX9_widestWay 38 = .ok (.iload_n 3, 1) := by decide +kernel
theorem dX9_widestWay_39 : decode cX9_widestWay 39 = .ok (.iload_n 1, 1) := by decide +kernel
theorem dX9_widestWay_40 : decode cX9_widestWay 40 = .ok (.invokevirtual 395, 3) := by decide +kernel
theorem dX9_widestWay_43 : decode cX9_widestWay 43 = .ok (.iload_n 2, 1) := by decide +kernel
theorem dX9_widestWay_44 : decode cX9_widestWay 44 = .ok (.ishr, 1) := by decide +kernel
theorem dX9_widestWay_45 : decode cX9_widestWay 45 = .ok (.iconst 1, 1) := by decide +kernel
theorem dX9_widestWay_46 : decode cX9_widestWay 46 = .ok (.iand, 1) := by decide +kernel
theorem dX9_widestWay_47 : decode cX9_widestWay 47 = .ok (.iconst 1, 1) := by decide +kernel
theorem dX9_widestWay_48 : decode cX9_widestWay 48 = .ok (.if_icmp .ne 5, 3) := by decide +kernel
theorem dX9_widestWay_51 : decode cX9_widestWay 51 = .ok (.iload_n 3, 1) := by decide +kernel
theorem dX9_widestWay_52 : decode cX9_widestWay 52 = .ok (.ireturn, 1) := by decide +kernel
theorem dX9_widestWay_53 : decode cX9_widestWay 53 = .ok (.iinc 3 (-1), 3) := by decide +kernel
theorem dX9_widestWay_56 : decode cX9_widestWay 56 = .ok (.goto (-23), 3) := by decide +kernel
theorem dX9_widestWay_59 : decode cX9_widestWay 59 = .ok (.iconst (-1), 1) := by decide +kernel
theorem dX9_widestWay_60 : decode cX9_widestWay 60 = .ok (.ireturn, 1) := by decide +kernel
theorem dX9_warmestFree_0 : decode cX9_warmestFree 0 = .ok (.aload_n 0, 1) := by decide +kernel
theorem dX9_warmestFree_1 : decode cX9_warmestFree 1 = .ok (.iconst 0, 1) := by decide +kernel
theorem dX9_warmestFree_2 : decode cX9_warmestFree 2 = .ok (.putfield 57, 3) := by decide +kernel
theorem dX9_warmestFree_5 : decode cX9_warmestFree 5 = .ok (.aload_n 0, 1) := by decide +kernel
theorem dX9_warmestFree_6 : decode cX9_warmestFree 6 = .ok (.invokevirtual 127, 3) := by decide +kernel
theorem dX9_warmestFree_9 : decode cX9_warmestFree 9 = .ok (.ireturn, 1) := by decide +kernel
theorem dX9_catTold_0 : decode cX9_catTold 0 = .ok (.aload_n 0, 1) := by decide +kernel
theorem dX9_catTold_1 : decode cX9_catTold 1 = .ok (.aload_n 0, 1) := by decide +kernel
theorem dX9_catTold_2 : decode cX9_catTold 2 = .ok (.iload_n 1, 1) := by decide +kernel
theorem dX9_catTold_3 : decode cX9_catTold 3 = .ok (.invokevirtual 379, 3) := by decide +kernel
theorem dX9_catTold_6 : decode cX9_catTold 6 = .ok (.ifCond .ne 7, 3) := by decide +kernel
theorem dX9_catTold_9 : decode cX9_catTold 9 = .ok (.iconst 1, 1) := by decide +kernel
theorem dX9_catTold_10 : decode cX9_catTold 10 = .ok (.goto 4, 3) := by decide +kernel
theorem dX9_catTold_13 : decode cX9_catTold 13 = .ok (.iconst 0, 1) := by decide +kernel
theorem dX9_catTold_14 : decode cX9_catTold 14 = .ok (.invokevirtual 355, 3) := by decide +kernel
theorem dX9_catTold_17 : decode cX9_catTold 17 = .ok (.ifCond .eq 7, 3) := by decide +kernel
theorem dX9_catTold_20 : decode cX9_catTold 20 = .ok (.iconst 0, 1) := by decide +kernel
theorem dX9_catTold_21 : decode cX9_catTold 21 = .ok (.goto 9, 3) := by decide +kernel
theorem dX9_catTold_24 : decode cX9_catTold 24 = .ok (.aload_n 0, 1) := by decide +kernel
theorem dX9_catTold_25 : decode cX9_catTold 25 = .ok (.iload_n 1, 1) := by decide +kernel
theorem dX9_catTold_26 : decode cX9_catTold 26 = .ok (.iload_n 2, 1) := by decide +kernel
theorem dX9_catTold_27 : decode cX9_catTold 27 = .ok (.invokevirtual 64, 3) := by decide +kernel
theorem dX9_catTold_30 : decode cX9_catTold 30 = .ok (.ireturn, 1) := by decide +kernel
theorem dX9_girth_0 : decode cX9_girth 0 = .ok (.aload_n 0, 1) := by decide +kernel
theorem dX9_girth_1 : decode cX9_girth 1 = .ok (.iload_n 1, 1) := by decide +kernel
theorem dX9_girth_2 : decode cX9_girth 2 = .ok (.iconst 0, 1) := by decide +kernel
theorem dX9_girth_3 : decode cX9_girth 3 = .ok (.invokevirtual 398, 3) := by decide +kernel
theorem dX9_girth_6 : decode cX9_girth 6 = .ok (.ireturn, 1) := by decide +kernel
theorem dX9_power_0 : decode cX9_power 0 = .ok (.aload_n 0, 1) := by decide +kernel
theorem dX9_power_1 : decode cX9_power 1 = .ok (.aload_n 0, 1) := by decide +kernel
theorem dX9_power_2 : decode cX9_power 2 = .ok (.iload_n 1, 1) := by decide +kernel
theorem dX9_power_3 : decode cX9_power 3 = .ok (.invokevirtual 379, 3) := by decide +kernel
theorem dX9_power_6 : decode cX9_power 6 = .ok (.ifCond .ne 7, 3) := by decide +kernel
theorem dX9_power_9 : decode cX9_power 9 = .ok (.iconst 1, 1) := by decide +kernel
theorem dX9_power_10 : decode cX9_power 10 = .ok (.goto 4, 3) := by decide +kernel
theorem dX9_power_13 : decode cX9_power 13 = .ok (.iconst 0, 1) := by decide +kernel
theorem dX9_power_14 : decode cX9_power 14 = .ok (.invokevirtual 355, 3) := by decide +kernel
theorem dX9_power_17 : decode cX9_power 17 = .ok (.ifCond .eq 7, 3) := by decide +kernel
theorem dX9_power_20 : decode cX9_power 20 = .ok (.iconst 0, 1) := by decide +kernel
theorem dX9_power_21 : decode cX9_power 21 = .ok (.goto 8, 3) := by decide +kernel
theorem dX9_power_24 : decode cX9_power 24 = .ok (.aload_n 0, 1) := by decide +kernel
theorem dX9_power_25 : decode cX9_power 25 = .ok (.iload_n 1, 1) := by decide +kernel
theorem dX9_power_26 : decode cX9_power 26 = .ok (.invokevirtual 105, 3) := by decide +kernel
theorem dX9_power_29 : decode cX9_power 29 = .ok (.ireturn, 1) := by decide +kernel
theorem dX9_fish_0 : decode cX9_fish 0 = .ok (.aload_n 0, 1) := by decide +kernel
theorem dX9_fish_1 : decode cX9_fish 1 = .ok (.iload_n 1, 1) := by decide +kernel
theorem dX9_fish_2 : decode cX9_fish 2 = .ok (.iconst 2, 1) := by decide +kernel
theorem dX9_fish_3 : decode cX9_fish 3 = .ok (.invokevirtual 398, 3) := by decide +kernel
theorem dX9_fish_6 : decode cX9_fish 6 = .ok (.ireturn, 1) := by decide +kernel
theorem dX9_chimneyOf_0 : decode cX9_chimneyOf 0 = .ok (.aload_n 0, 1) := by decide +kernel
theorem dX9_chimneyOf_1 : decode cX9_chimneyOf 1 = .ok (.iload_n 1, 1) := by decide +kernel
theorem dX9_chimneyOf_2 : decode cX9_chimneyOf 2 = .ok (.iconst 3, 1) := by decide +kernel
theorem dX9_chimneyOf_3 : decode cX9_chimneyOf 3 = .ok (.invokevirtual 398, 3) := by decide +kernel
theorem dX9_chimneyOf_6 : decode cX9_chimneyOf 6 = .ok (.ireturn, 1) := by decide +kernel
theorem dX9_ownedChimneys_0 : decode cX9_ownedChimneys 0 = .ok (.aload_n 0, 1) := by decide +kernel
theorem dX9_ownedChimneys_1 : decode cX9_ownedChimneys 1 = .ok (.aload_n 0, 1) := by decide +kernel
theorem dX9_ownedChimneys_2 : decode cX9_ownedChimneys 2 = .ok (.iload_n 1, 1) := by decide +kernel
theorem dX9_ownedChimneys_3 : decode cX9_ownedChimneys 3 = .ok (.invokevirtual 379, 3) := by decide +kernel
theorem dX9_ownedChimneys_6 : decode cX9_ownedChimneys 6 = .ok (.ifCond .ne 7, 3) := by decide +kernel
theorem dX9_ownedChimneys_9 : decode cX9_ownedChimneys 9 = .ok (.iconst 1, 1) := by decide +kernel
theorem dX9_ownedChimneys_10 : decode cX9_ownedChimneys 10 = .ok (.goto 4, 3) := by decide +kernel
theorem dX9_ownedChimneys_13 : decode cX9_ownedChimneys 13 = .ok (.iconst 0, 1) := by decide +kernel
theorem dX9_ownedChimneys_14 : decode cX9_ownedChimneys 14 = .ok (.invokevirtual 355, 3) := by decide +kernel
theorem dX9_ownedChimneys_17 : decode cX9_ownedChimneys 17 = .ok (.ifCond .eq 5, 3) := by decide +kernel
theorem dX9_ownedChimneys_20 : decode cX9_ownedChimneys 20 = .ok (.iconst 0, 1) := by decide +kernel
theorem dX9_ownedChimneys_21 : decode cX9_ownedChimneys 21 = .ok (.ireturn, 1) := by decide +kernel
theorem dX9_ownedChimneys_22 : decode cX9_ownedChimneys 22 = .ok (.iconst 0, 1) := by decide +kernel
theorem dX9_ownedChimneys_23 : decode cX9_ownedChimneys 23 = .ok (.istore_n 2, 1) := by decide +kernel
theorem dX9_ownedChimneys_24 : decode cX9_ownedChimneys 24 = .ok (.iconst 0, 1) := by decide +kernel
theorem dX9_ownedChimneys_25 : decode cX9_ownedChimneys 25 = .ok (.istore_n 3, 1) := by decide +kernel
theorem dX9_ownedChimneys_26 : decode cX9_ownedChimneys 26 = .ok (.iload_n 3, 1) := by decide +kernel
theorem dX9_ownedChimneys_27 : decode cX9_ownedChimneys 27 = .ok (.aload_n 0, 1) := by decide +kernel
theorem dX9_ownedChimneys_28 : decode cX9_ownedChimneys 28 = .ok (.getfield 7, 3) := by decide +kernel
theorem dX9_ownedChimneys_31 : decode cX9_ownedChimneys 31 = .ok (.iconst 0, 1) := by decide +kernel
theorem dX9_ownedChimneys_32 : decode cX9_ownedChimneys 32 = .ok (.iaload, 1) := by decide +kernel
theorem dX9_ownedChimneys_33 : decode cX9_ownedChimneys 33 = .ok (.if_icmp .ge 28, 3) := by decide +kernel
theorem dX9_ownedChimneys_36 : decode cX9_ownedChimneys 36 = .ok (.iload_n 2, 1) := by decide +kernel
theorem dX9_ownedChimneys_37 : decode cX9_ownedChimneys 37 = .ok (.aload_n 0, 1) := by decide +kernel
theorem dX9_ownedChimneys_38 : decode cX9_ownedChimneys 38 = .ok (.iload_n 3, 1) := by decide +kernel
theorem dX9_ownedChimneys_39 : decode cX9_ownedChimneys 39 = .ok (.invokevirtual 68, 3) := by decide +kernel
theorem dX9_ownedChimneys_42 : decode cX9_ownedChimneys 42 = .ok (.iload_n 1, 1) := by decide +kernel
theorem dX9_ownedChimneys_43 : decode cX9_ownedChimneys 43 = .ok (.if_icmp .ne 9, 3) := by decide +kernel
theorem dX9_ownedChimneys_46 : decode cX9_ownedChimneys 46 = .ok (.iconst 1, 1) := by decide +kernel
theorem dX9_ownedChimneys_47 : decode cX9_ownedChimneys 47 = .ok (.iload_n 3, 1) := by decide +kernel
theorem dX9_ownedChimneys_48 : decode cX9_ownedChimneys 48 = .ok (.ishl, 1) := by decide +kernel
theorem dX9_ownedChimneys_49 : decode cX9_ownedChimneys 49 = .ok (.goto 4, 3) := by decide +kernel
theorem dX9_ownedChimneys_52 : decode cX9_ownedChimneys 52 = .ok (.iconst 0, 1) := by decide +kernel
theorem dX9_ownedChimneys_53 : decode cX9_ownedChimneys 53 = .ok (.ior, 1) := by decide +kernel
theorem dX9_ownedChimneys_54 : decode cX9_ownedChimneys 54 = .ok (.istore_n 2, 1) := by decide +kernel
theorem dX9_ownedChimneys_55 : decode cX9_ownedChimneys 55 = .ok (.iinc 3 1, 3) := by decide +kernel
theorem dX9_ownedChimneys_58 : decode cX9_ownedChimneys 58 = .ok (.goto (-32), 3) := by decide +kernel
theorem dX9_ownedChimneys_61 : decode cX9_ownedChimneys 61 = .ok (.iload_n 2, 1) := by decide +kernel
theorem dX9_ownedChimneys_62 : decode cX9_ownedChimneys 62 = .ok (.ireturn, 1) := by decide +kernel
theorem dX9_truceNights_0 : decode cX9_truceNights 0 = .ok (.aload_n 0, 1) := by decide +kernel
theorem dX9_truceNights_1 : decode cX9_truceNights 1 = .ok (.aload_n 0, 1) := by decide +kernel
theorem dX9_truceNights_2 : decode cX9_truceNights 2 = .ok (.iload_n 1, 1) := by decide +kernel
theorem dX9_truceNights_3 : decode cX9_truceNights 3 = .ok (.iload_n 2, 1) := by decide +kernel
theorem dX9_truceNights_4 : decode cX9_truceNights 4 = .ok (.invokevirtual 385, 3) := by decide +kernel
theorem dX9_truceNights_7 : decode cX9_truceNights 7 = .ok (.ifCond .ne 7, 3) := by decide +kernel
theorem dX9_truceNights_10 : decode cX9_truceNights 10 = .ok (.iconst 1, 1) := by decide +kernel
theorem dX9_truceNights_11 : decode cX9_truceNights 11 = .ok (.goto 4, 3) := by decide +kernel
theorem dX9_truceNights_14 : decode cX9_truceNights 14 = .ok (.iconst 0, 1) := by decide +kernel
theorem dX9_truceNights_15 : decode cX9_truceNights 15 = .ok (.iload_n 1, 1) := by decide +kernel
theorem dX9_truceNights_16 : decode cX9_truceNights 16 = .ok (.iload_n 2, 1) := by decide +kernel
theorem dX9_truceNights_17 : decode cX9_truceNights 17 = .ok (.if_icmp .ne 7, 3) := by decide +kernel
theorem dX9_truceNights_20 : decode cX9_truceNights 20 = .ok (.iconst 1, 1) := by decide +kernel
theorem dX9_truceNights_21 : decode cX9_truceNights 21 = .ok (.goto 4, 3) := by decide +kernel
theorem dX9_truceNights_24 : decode cX9_truceNights 24 = .ok (.iconst 0, 1) := by decide +kernel
theorem dX9_truceNights_25 : decode cX9_truceNights 25 = .ok (.invokevirtual 367, 3) := by decide +kernel
theorem dX9_truceNights_28 : decode cX9_truceNights 28 = .ok (.ifCond .eq 7, 3) := by decide +kernel
theorem dX9_truceNights_31 : decode cX9_truceNights 31 = .ok (.iconst 0, 1) := by decide +kernel
theorem dX9_truceNights_32 : decode cX9_truceNights 32 = .ok (.goto 9, 3) := by decide +kernel
theorem dX9_truceNights_35 : decode cX9_truceNights 35 = .ok (.aload_n 0, 1) := by decide +kernel
theorem dX9_truceNights_36 : decode cX9_truceNights 36 = .ok (.iload_n 1, 1) := by decide +kernel
theorem dX9_truceNights_37 : decode cX9_truceNights 37 = .ok (.iload_n 2, 1) := by decide +kernel
theorem dX9_truceNights_38 : decode cX9_truceNights 38 = .ok (.invokevirtual 90, 3) := by decide +kernel
theorem dX9_truceNights_41 : decode cX9_truceNights 41 = .ok (.ireturn, 1) := by decide +kernel
theorem dX9_reachable_0 : decode cX9_reachable 0 = .ok (.aload_n 0, 1) := by decide +kernel
theorem dX9_reachable_1 : decode cX9_reachable 1 = .ok (.aload_n 0, 1) := by decide +kernel
theorem dX9_reachable_2 : decode cX9_reachable 2 = .ok (.iload_n 1, 1) := by decide +kernel
theorem dX9_reachable_3 : decode cX9_reachable 3 = .ok (.invokevirtual 379, 3) := by decide +kernel
theorem dX9_reachable_6 : decode cX9_reachable 6 = .ok (.ifCond .ne 7, 3) := by decide +kernel
theorem dX9_reachable_9 : decode cX9_reachable 9 = .ok (.iconst 1, 1) := by decide +kernel
theorem dX9_reachable_10 : decode cX9_reachable 10 = .ok (.goto 4, 3) := by decide +kernel
theorem dX9_reachable_13 : decode cX9_reachable 13 = .ok (.iconst 0, 1) := by decide +kernel
theorem dX9_reachable_14 : decode cX9_reachable 14 = .ok (.invokevirtual 355, 3) := by decide +kernel
theorem dX9_reachable_17 : decode cX9_reachable 17 = .ok (.ifCond .eq 5, 3) := by decide +kernel
theorem dX9_reachable_20 : decode cX9_reachable 20 = .ok (.iconst 0, 1) := by decide +kernel
theorem dX9_reachable_21 : decode cX9_reachable 21 = .ok (.ireturn, 1) := by decide +kernel
theorem dX9_reachable_22 : decode cX9_reachable 22 = .ok (.aload_n 0, 1) := by decide +kernel
theorem dX9_reachable_23 : decode cX9_reachable 23 = .ok (.iload_n 1, 1) := by decide +kernel
theorem dX9_reachable_24 : decode cX9_reachable 24 = .ok (.invokevirtual 401, 3) := by decide +kernel
theorem dX9_reachable_27 : decode cX9_reachable 27 = .ok (.iconst 0, 1) := by decide +kernel
theorem dX9_reachable_28 : decode cX9_reachable 28 = .ok (.istore_n 2, 1) := by decide +kernel
theorem dX9_reachable_29 : decode cX9_reachable 29 = .ok (.iconst 0, 1) := by decide +kernel
theorem dX9_reachable_30 : decode cX9_reachable 30 = .ok (.istore_n 3, 1) := by decide +kernel
theorem dX9_reachable_31 : decode cX9_reachable 31 = .ok (.iload_n 3, 1) := by decide +kernel
theorem dX9_reachable_32 : decode cX9_reachable 32 = .ok (.aload_n 0, 1) := by decide +kernel
theorem dX9_reachable_33 : decode cX9_reachable 33 = .ok (.getfield 7, 3) := by decide +kernel
theorem dX9_reachable_36 : decode cX9_reachable 36 = .ok (.iconst 0, 1) := by decide +kernel
theorem dX9_reachable_37 : decode cX9_reachable 37 = .ok (.iaload, 1) := by decide +kernel
theorem dX9_reachable_38 : decode cX9_reachable 38 = .ok (.if_icmp .ge 29, 3) := by decide +kernel
theorem dX9_reachable_41 : decode cX9_reachable 41 = .ok (.iload_n 2, 1) := by decide +kernel
theorem dX9_reachable_42 : decode cX9_reachable 42 = .ok (.aload_n 0, 1) := by decide +kernel
theorem dX9_reachable_43 : decode cX9_reachable 43 = .ok (.getfield 31, 3) := by decide +kernel
theorem dX9_reachable_46 : decode cX9_reachable 46 = .ok (.iload_n 3, 1) := by decide +kernel
theorem dX9_reachable_47 : decode cX9_reachable 47 = .ok (.iaload, 1) := by decide +kernel
theorem dX9_reachable_48 : decode cX9_reachable 48 = .ok (.iconst (-1), 1) := by decide +kernel
theorem dX9_reachable_49 : decode cX9_reachable 49 = .ok (.if_icmp .ne 7, 3) := by decide +kernel
theorem dX9_reachable_52 : decode cX9_reachable 52 = .ok (.iconst 0, 1) := by decide +kernel
theorem dX9_reachable_53 : decode cX9_reachable 53 = .ok (.goto 6, 3) := by decide +kernel
theorem dX9_reachable_56 : decode cX9_reachable 56 = .ok (.iconst 1, 1) := by decide +kernel
theorem dX9_reachable_57 : decode cX9_reachable 57 = .ok (.iload_n 3, 1) := by decide +kernel
theorem dX9_reachable_58 : decode cX9_reachable 58 = .ok (.ishl, 1) := by decide +kernel
theorem dX9_reachable_59 : decode cX9_reachable 59 = .ok (.ior, 1) := by decide +kernel
theorem dX9_reachable_60 : decode cX9_reachable 60 = .ok (.istore_n 2, 1) := by decide +kernel
theorem dX9_reachable_61 : decode cX9_reachable 61 = .ok (.iinc 3 1, 3) := by decide +kernel
theorem dX9_reachable_64 : decode cX9_reachable 64 = .ok (.goto (-33), 3) := by decide +kernel
theorem dX9_reachable_67 : decode cX9_reachable 67 = .ok (.iload_n 2, 1) := by decide +kernel
theorem dX9_reachable_68 : decode cX9_reachable 68 = .ok (.ireturn, 1) := by decide +kernel
theorem dX9_stepsTo_0 : decode cX9_stepsTo 0 = .ok (.aload_n 0, 1) := by decide +kernel
theorem dX9_stepsTo_1 : decode cX9_stepsTo 1 = .ok (.aload_n 0, 1) := by decide +kernel
theorem dX9_stepsTo_2 : decode cX9_stepsTo 2 = .ok (.iload_n 1, 1) := by decide +kernel
theorem dX9_stepsTo_3 : decode cX9_stepsTo 3 = .ok (.invokevirtual 379, 3) := by decide +kernel
theorem dX9_stepsTo_6 : decode cX9_stepsTo 6 = .ok (.ifCond .eq 11, 3) := by decide +kernel
theorem dX9_stepsTo_9 : decode cX9_stepsTo 9 = .ok (.aload_n 0, 1) := by decide +kernel
theorem dX9_stepsTo_10 : decode cX9_stepsTo 10 = .ok (.iload_n 2, 1) := by decide +kernel
theorem dX9_stepsTo_11 : decode cX9_stepsTo 11 = .ok (.invokevirtual 370, 3) := by decide +kernel
theorem dX9_stepsTo_14 : decode cX9_stepsTo 14 = .ok (.ifCond .ne 7, 3) := by decide +kernel
theorem dX9_stepsTo_17 : decode cX9_stepsTo 17 = .ok (.iconst 1, 1) := by decide +kernel
theorem dX9_stepsTo_18 : decode cX9_stepsTo 18 = .ok (.goto 4, 3) := by decide +kernel
theorem dX9_stepsTo_21 : decode cX9_stepsTo 21 = .ok (.iconst 0, 1) := by decide +kernel
theorem dX9_stepsTo_22 : decode cX9_stepsTo 22 = .ok (.invokevirtual 355, 3) := by decide +kernel
theorem dX9_stepsTo_25 : decode cX9_stepsTo 25 = .ok (.ifCond .eq 5, 3) := by decide +kernel
theorem dX9_stepsTo_28 : decode cX9_stepsTo 28 = .ok (.iconst 0, 1) := by decide +kernel
theorem dX9_stepsTo_29 : decode cX9_stepsTo 29 = .ok (.ireturn, 1) := by decide +kernel
theorem dX9_stepsTo_30 : decode cX9_stepsTo 30 = .ok (.aload_n 0, 1) := by decide +kernel
theorem dX9_stepsTo_31 : decode cX9_stepsTo 31 = .ok (.iload_n 1, 1) := by decide +kernel
theorem dX9_stepsTo_32 : decode cX9_stepsTo 32 = .ok (.invokevirtual 401, 3) := by decide +kernel
theorem dX9_stepsTo_35 : decode cX9_stepsTo 35 = .ok (.aload_n 0, 1) := by decide +kernel
theorem dX9_stepsTo_36 : decode cX9_stepsTo 36 = .ok (.getfield 31, 3) := by decide +kernel
theorem dX9_stepsTo_39 : decode cX9_stepsTo 39 = .ok (.iload_n 2, 1) := by decide +kernel
theorem dX9_stepsTo_40 : decode cX9_stepsTo 40 = .ok (.iaload, 1) := by decide +kernel
theorem dX9_stepsTo_41 : decode cX9_stepsTo 41 = .ok (.ireturn, 1) := by decide +kernel
theorem dX9_openGutters_0 : decode cX9_openGutters 0 = .ok (.aload_n 0, 1) := by decide +kernel
theorem dX9_openGutters_1 : decode cX9_openGutters 1 = .ok (.aload_n 0, 1) := by decide +kernel
theorem dX9_openGutters_2 : decode cX9_openGutters 2 = .ok (.iload_n 1, 1) := by decide +kernel
theorem dX9_openGutters_3 : decode cX9_openGutters 3 = .ok (.invokevirtual 379, 3) := by decide +kernel
theorem dX9_openGutters_6 : decode cX9_openGutters 6 = .ok (.ifCond .ne 7, 3) := by decide +kernel
theorem dX9_openGutters_9 : decode cX9_openGutters 9 = .ok (.iconst 1, 1) := by decide +kernel
theorem dX9_openGutters_10 : decode cX9_openGutters 10 = .ok (.goto 4, 3) := by decide +kernel
theorem dX9_openGutters_13 : decode cX9_openGutters 13 = .ok (.iconst 0, 1) := by decide +kernel
theorem dX9_openGutters_14 : decode cX9_openGutters 14 = .ok (.invokevirtual 355, 3) := by decide +kernel
theorem dX9_openGutters_17 : decode cX9_openGutters 17 = .ok (.ifCond .eq 5, 3) := by decide +kernel
theorem dX9_openGutters_20 : decode cX9_openGutters 20 = .ok (.iconst 0, 1) := by decide +kernel
theorem dX9_openGutters_21 : decode cX9_openGutters 21 = .ok (.ireturn, 1) := by decide +kernel
theorem dX9_openGutters_22 : decode cX9_openGutters 22 = .ok (.iconst 0, 1) := by decide +kernel
theorem dX9_openGutters_23 : decode cX9_openGutters 23 = .ok (.istore_n 2, 1) := by decide +kernel
theorem dX9_openGutters_24 : decode cX9_openGutters 24 = .ok (.iconst 0, 1) := by decide +kernel
theorem dX9_openGutters_25 : decode cX9_openGutters 25 = .ok (.istore_n 3, 1) := by decide +kernel
theorem dX9_openGutters_26 : decode cX9_openGutters 26 = .ok (.iload_n 3, 1) := by decide +kernel
theorem dX9_openGutters_27 : decode cX9_openGutters 27 = .ok (.aload_n 0, 1) := by decide +kernel
theorem dX9_openGutters_28 : decode cX9_openGutters 28 = .ok (.getfield 7, 3) := by decide +kernel
theorem dX9_openGutters_31 : decode cX9_openGutters 31 = .ok (.iconst 1, 1) := by decide +kernel
theorem dX9_openGutters_32 : decode cX9_openGutters 32 = .ok (.iaload, 1) := by decide +kernel
theorem dX9_openGutters_33 : decode cX9_openGutters 33 = .ok (.if_icmp .ge 28, 3) := by decide +kernel
theorem dX9_openGutters_36 : decode cX9_openGutters 36 = .ok (.iload_n 2, 1) := by decide +kernel
theorem dX9_openGutters_37 : decode cX9_openGutters 37 = .ok (.aload_n 0, 1) := by decide +kernel
theorem dX9_openGutters_38 : decode cX9_openGutters 38 = .ok (.iload_n 1, 1) := by decide +kernel
theorem dX9_openGutters_39 : decode cX9_openGutters 39 = .ok (.iload_n 3, 1) := by decide +kernel
theorem dX9_openGutters_40 : decode cX9_openGutters 40 = .ok (.invokevirtual 219, 3) := by decide +kernel
theorem dX9_openGutters_43 : decode cX9_openGutters 43 = .ok (.ifCond .ne 9, 3) := by decide +kernel
theorem dX9_openGutters_46 : decode cX9_openGutters 46 = .ok (.iconst 1, 1) := by decide +kernel
theorem dX9_openGutters_47 : decode cX9_openGutters 47 = .ok (.iload_n 3, 1) := by decide +kernel
theorem dX9_openGutters_48 : decode cX9_openGutters 48 = .ok (.ishl, 1) := by decide +kernel
theorem dX9_openGutters_49 : decode cX9_openGutters 49 = .ok (.goto 4, 3) := by decide +kernel
theorem dX9_openGutters_52 : decode cX9_openGutters 52 = .ok (.iconst 0, 1) := by decide +kernel
theorem dX9_openGutters_53 : decode cX9_openGutters 53 = .ok (.ior, 1) := by decide +kernel
theorem dX9_openGutters_54 : decode cX9_openGutters 54 = .ok (.istore_n 2, 1) := by decide +kernel
theorem dX9_openGutters_55 : decode cX9_openGutters 55 = .ok (.iinc 3 1, 3) := by decide +kernel
theorem dX9_openGutters_58 : decode cX9_openGutters 58 = .ok (.goto (-32), 3) := by decide +kernel
theorem dX9_openGutters_61 : decode cX9_openGutters 61 = .ok (.iload_n 2, 1) := by decide +kernel
theorem dX9_openGutters_62 : decode cX9_openGutters 62 = .ok (.ireturn, 1) := by decide +kernel
theorem dX9_whyNoStep_0 : decode cX9_whyNoStep 0 = .ok (.aload_n 0, 1) := by decide +kernel
theorem dX9_whyNoStep_1 : decode cX9_whyNoStep 1 = .ok (.aload_n 0, 1) := by decide +kernel
theorem dX9_whyNoStep_2 : decode cX9_whyNoStep 2 = .ok (.iload_n 1, 1) := by decide +kernel
theorem dX9_whyNoStep_3 : decode cX9_whyNoStep 3 = .ok (.invokevirtual 379, 3) := by decide +kernel
theorem dX9_whyNoStep_6 : decode cX9_whyNoStep 6 = .ok (.ifCond .eq 11, 3) := by decide +kernel
theorem dX9_whyNoStep_9 : decode cX9_whyNoStep 9 = .ok (.aload_n 0, 1) := by decide +kernel
theorem dX9_whyNoStep_10 : decode cX9_whyNoStep 10 = .ok (.iload_n 2, 1) := by decide +kernel
theorem dX9_whyNoStep_11 : decode cX9_whyNoStep 11 = .ok (.invokevirtual 382, 3) := by decide +kernel
theorem dX9_whyNoStep_14 : decode cX9_whyNoStep 14 = .ok (.ifCond .ne 7, 3) := by decide +kernel
theorem dX9_whyNoStep_17 : decode cX9_whyNoStep 17 = .ok (.iconst 1, 1) := by decide +kernel
theorem dX9_whyNoStep_18 : decode cX9_whyNoStep 18 = .ok (.goto 4, 3) := by decide +kernel
theorem dX9_whyNoStep_21 : decode cX9_whyNoStep 21 = .ok (.iconst 0, 1) := by decide +kernel
theorem dX9_whyNoStep_22 : decode cX9_whyNoStep 22 = .ok (.invokevirtual 355, 3) := by decide +kernel
theorem dX9_whyNoStep_25 : decode cX9_whyNoStep 25 = .ok (.ifCond .eq 7, 3) := by decide +kernel
theorem dX9_whyNoStep_28 : decode cX9_whyNoStep 28 = .ok (.iconst 0, 1) := by decide +kernel
theorem dX9_whyNoStep_29 : decode cX9_whyNoStep 29 = .ok (.goto 9, 3) := by decide +kernel
theorem dX9_whyNoStep_32 : decode cX9_whyNoStep 32 = .ok (.aload_n 0, 1) := by decide +kernel
theorem dX9_whyNoStep_33 : decode cX9_whyNoStep 33 = .ok (.iload_n 1, 1) := by decide +kernel
theorem dX9_whyNoStep_34 : decode cX9_whyNoStep 34 = .ok (.iload_n 2, 1) := by decide +kernel
theorem dX9_whyNoStep_35 : decode cX9_whyNoStep 35 = .ok (.invokevirtual 219, 3) := by decide +kernel
theorem dX9_whyNoStep_38 : decode cX9_whyNoStep 38 = .ok (.ireturn, 1) := by decide +kernel
theorem dX9_whyNoClaim_0 : decode cX9_whyNoClaim 0 = .ok (.aload_n 0, 1) := by decide +kernel
theorem dX9_whyNoClaim_1 : decode cX9_whyNoClaim 1 = .ok (.aload_n 0, 1) := by decide +kernel
theorem dX9_whyNoClaim_2 : decode cX9_whyNoClaim 2 = .ok (.iload_n 1, 1) := by decide +kernel
theorem dX9_whyNoClaim_3 : decode cX9_whyNoClaim 3 = .ok (.invokevirtual 379, 3) := by decide +kernel
theorem dX9_whyNoClaim_6 : decode cX9_whyNoClaim 6 = .ok (.ifCond .ne 7, 3) := by decide +kernel
theorem dX9_whyNoClaim_9 : decode cX9_whyNoClaim 9 = .ok (.iconst 1, 1) := by decide +kernel
theorem dX9_whyNoClaim_10 : decode cX9_whyNoClaim 10 = .ok (.goto 4, 3) := by decide +kernel
theorem dX9_whyNoClaim_13 : decode cX9_whyNoClaim 13 = .ok (.iconst 0, 1) := by decide +kernel
theorem dX9_whyNoClaim_14 : decode cX9_whyNoClaim 14 = .ok (.invokevirtual 355, 3) := by decide +kernel
theorem dX9_whyNoClaim_17 : decode cX9_whyNoClaim 17 = .ok (.ifCond .eq 7, 3) := by decide +kernel
theorem dX9_whyNoClaim_20 : decode cX9_whyNoClaim 20 = .ok (.iconst 0, 1) := by decide +kernel
theorem dX9_whyNoClaim_21 : decode cX9_whyNoClaim 21 = .ok (.goto 8, 3) := by decide +kernel
theorem dX9_whyNoClaim_24 : decode cX9_whyNoClaim 24 = .ok (.aload_n 0, 1) := by decide +kernel
theorem dX9_whyNoClaim_25 : decode cX9_whyNoClaim 25 = .ok (.iload_n 1, 1) := by decide +kernel
theorem dX9_whyNoClaim_26 : decode cX9_whyNoClaim 26 = .ok (.invokevirtual 225, 3) := by decide +kernel
theorem dX9_whyNoClaim_29 : decode cX9_whyNoClaim 29 = .ok (.ireturn, 1) := by decide +kernel
theorem dX9_whyNoChase_0 : decode cX9_whyNoChase 0 = .ok (.aload_n 0, 1) := by decide +kernel
theorem dX9_whyNoChase_1 : decode cX9_whyNoChase 1 = .ok (.aload_n 0, 1) := by decide +kernel
theorem dX9_whyNoChase_2 : decode cX9_whyNoChase 2 = .ok (.iload_n 1, 1) := by decide +kernel
theorem dX9_whyNoChase_3 : decode cX9_whyNoChase 3 = .ok (.iload_n 2, 1) := by decide +kernel
theorem dX9_whyNoChase_4 : decode cX9_whyNoChase 4 = .ok (.invokevirtual 385, 3) := by decide +kernel
theorem dX9_whyNoChase_7 : decode cX9_whyNoChase 7 = .ok (.ifCond .ne 7, 3) := by decide +kernel
theorem dX9_whyNoChase_10 : decode cX9_whyNoChase 10 = .ok (.iconst 1, 1) := by decide +kernel
theorem dX9_whyNoChase_11 : decode cX9_whyNoChase 11 = .ok (.goto 4, 3) := by decide +kernel
theorem dX9_whyNoChase_14 : decode cX9_whyNoChase 14 = .ok (.iconst 0, 1) := by decide +kernel
theorem dX9_whyNoChase_15 : decode cX9_whyNoChase 15 = .ok (.iload_n 1, 1) := by decide +kernel
theorem dX9_whyNoChase_16 : decode cX9_whyNoChase 16 = .ok (.iload_n 2, 1) := by decide +kernel
theorem dX9_whyNoChase_17 : decode cX9_whyNoChase 17 = .ok (.if_icmp .ne 7, 3) := by decide +kernel
theorem dX9_whyNoChase_20 : decode cX9_whyNoChase 20 = .ok (.iconst 1, 1) := by decide +kernel
theorem dX9_whyNoChase_21 : decode cX9_whyNoChase 21 = .ok (.goto 4, 3) := by decide +kernel
theorem dX9_whyNoChase_24 : decode cX9_whyNoChase 24 = .ok (.iconst 0, 1) := by decide +kernel
theorem dX9_whyNoChase_25 : decode cX9_whyNoChase 25 = .ok (.invokevirtual 367, 3) := by decide +kernel
theorem dX9_whyNoChase_28 : decode cX9_whyNoChase 28 = .ok (.ifCond .eq 7, 3) := by decide +kernel
theorem dX9_whyNoChase_31 : decode cX9_whyNoChase 31 = .ok (.iconst 0, 1) := by decide +kernel
theorem dX9_whyNoChase_32 : decode cX9_whyNoChase 32 = .ok (.goto 9, 3) := by decide +kernel
theorem dX9_whyNoChase_35 : decode cX9_whyNoChase 35 = .ok (.aload_n 0, 1) := by decide +kernel
theorem dX9_whyNoChase_36 : decode cX9_whyNoChase 36 = .ok (.iload_n 1, 1) := by decide +kernel
theorem dX9_whyNoChase_37 : decode cX9_whyNoChase 37 = .ok (.iload_n 2, 1) := by decide +kernel
theorem dX9_whyNoChase_38 : decode cX9_whyNoChase 38 = .ok (.invokevirtual 234, 3) := by decide +kernel
theorem dX9_whyNoChase_41 : decode cX9_whyNoChase 41 = .ok (.ireturn, 1) := by decide +kernel
theorem dX9_preyOf_0 : decode cX9_preyOf 0 = .ok (.aload_n 0, 1) := by decide +kernel
theorem dX9_preyOf_1 : decode cX9_preyOf 1 = .ok (.aload_n 0, 1) := by decide +kernel
theorem dX9_preyOf_2 : decode cX9_preyOf 2 = .ok (.iload_n 1, 1) := by decide +kernel
theorem dX9_preyOf_3 : decode cX9_preyOf 3 = .ok (.invokevirtual 379, 3) := by decide +kernel
theorem dX9_preyOf_6 : decode cX9_preyOf 6 = .ok (.ifCond .ne 7, 3) := by decide +kernel
theorem dX9_preyOf_9 : decode cX9_preyOf 9 = .ok (.iconst 1, 1) := by decide +kernel
theorem dX9_preyOf_10 : decode cX9_preyOf 10 = .ok (.goto 4, 3) := by decide +kernel
theorem dX9_preyOf_13 : decode cX9_preyOf 13 = .ok (.iconst 0, 1) := by decide +kernel
theorem dX9_preyOf_14 : decode cX9_preyOf 14 = .ok (.invokevirtual 355, 3) := by decide +kernel
theorem dX9_preyOf_17 : decode cX9_preyOf 17 = .ok (.ifCond .eq 5, 3) := by decide +kernel
theorem dX9_preyOf_20 : decode cX9_preyOf 20 = .ok (.iconst 0, 1) := by decide +kernel
theorem dX9_preyOf_21 : decode cX9_preyOf 21 = .ok (.ireturn, 1) := by decide +kernel
theorem dX9_preyOf_22 : decode cX9_preyOf 22 = .ok (.iconst 0, 1) := by decide +kernel
theorem dX9_preyOf_23 : decode cX9_preyOf 23 = .ok (.istore_n 2, 1) := by decide +kernel
theorem dX9_preyOf_24 : decode cX9_preyOf 24 = .ok (.iconst 0, 1) := by decide +kernel
theorem dX9_preyOf_25 : decode cX9_preyOf 25 = .ok (.istore_n 3, 1) := by decide +kernel
theorem dX9_preyOf_26 : decode cX9_preyOf 26 = .ok (.iload_n 3, 1) := by decide +kernel
theorem dX9_preyOf_27 : decode cX9_preyOf 27 = .ok (.aload_n 0, 1) := by decide +kernel
theorem dX9_preyOf_28 : decode cX9_preyOf 28 = .ok (.getfield 7, 3) := by decide +kernel
theorem dX9_preyOf_31 : decode cX9_preyOf 31 = .ok (.iconst 2, 1) := by decide +kernel
theorem dX9_preyOf_32 : decode cX9_preyOf 32 = .ok (.iaload, 1) := by decide +kernel
theorem dX9_preyOf_33 : decode cX9_preyOf 33 = .ok (.if_icmp .ge 33, 3) := by decide +kernel
theorem dX9_preyOf_36 : decode cX9_preyOf 36 = .ok (.iload_n 2, 1) := by decide +kernel
theorem dX9_preyOf_37 : decode cX9_preyOf 37 = .ok (.iload_n 3, 1) := by decide +kernel
theorem dX9_preyOf_38 : decode cX9_preyOf 38 = .ok (.iload_n 1, 1) := by decide +kernel
theorem dX9_preyOf_39 : decode cX9_preyOf 39 = .ok (.if_icmp .eq 18, 3) := by decide +kernel
theorem dX9_preyOf_42 : decode cX9_preyOf 42 = .ok (.aload_n 0, 1) := by decide +kernel
theorem dX9_preyOf_43 : decode cX9_preyOf 43 = .ok (.iload_n 1, 1) := by decide +kernel
theorem dX9_preyOf_44 : decode cX9_preyOf 44 = .ok (.iload_n 3, 1) := by decide +kernel
theorem dX9_preyOf_45 : decode cX9_preyOf 45 = .ok (.invokevirtual 234, 3) := by decide +kernel
theorem dX9_preyOf_48 : decode cX9_preyOf 48 = .ok (.ifCond .ne 9, 3) := by decide +kernel
theorem dX9_preyOf_51 : decode cX9_preyOf 51 = .ok (.iconst 1, 1) := by decide +kernel
theorem dX9_preyOf_52 : decode cX9_preyOf 52 = .ok (.iload_n 3, 1) := by decide +kernel
theorem dX9_preyOf_53 : decode cX9_preyOf 53 = .ok (.ishl, 1) := by decide +kernel
theorem dX9_preyOf_54 : decode cX9_preyOf 54 = .ok (.goto 4, 3) := by decide +kernel
theorem dX9_preyOf_57 : decode cX9_preyOf 57 = .ok (.iconst 0, 1) := by decide +kernel
theorem dX9_preyOf_58 : decode cX9_preyOf 58 = .ok (.ior, 1) := by decide +kernel
theorem dX9_preyOf_59 : decode cX9_preyOf 59 = .ok (.istore_n 2, 1) := by decide +kernel
theorem dX9_preyOf_60 : decode cX9_preyOf 60 = .ok (.iinc 3 1, 3) := by decide +kernel
theorem dX9_preyOf_63 : decode cX9_preyOf 63 = .ok (.goto (-37), 3) := by decide +kernel
theorem dX9_preyOf_66 : decode cX9_preyOf 66 = .ok (.iload_n 2, 1) := by decide +kernel
theorem dX9_preyOf_67 : decode cX9_preyOf 67 = .ok (.ireturn, 1) := by decide +kernel
theorem dX9_isKittenWaiting_0 : decode cX9_isKittenWaiting 0 = .ok (.aload_n 0, 1) := by decide +kernel
theorem dX9_isKittenWaiting_1 : decode cX9_isKittenWaiting 1 = .ok (.iconst 0, 1) := by decide +kernel
theorem dX9_isKittenWaiting_2 : decode cX9_isKittenWaiting 2 = .ok (.putfield 57, 3) := by decide +kernel
theorem dX9_isKittenWaiting_5 : decode cX9_isKittenWaiting 5 = .ok (.aload_n 0, 1) := by decide +kernel
theorem dX9_isKittenWaiting_6 : decode cX9_isKittenWaiting 6 = .ok (.invokevirtual 121, 3) := by decide +kernel
theorem dX9_isKittenWaiting_9 : decode cX9_isKittenWaiting 9 = .ok (.ireturn, 1) := by decide +kernel
theorem dX9_votesFor_0 : decode cX9_votesFor 0 = .ok (.aload_n 0, 1) := by decide +kernel
theorem dX9_votesFor_1 : decode cX9_votesFor 1 = .ok (.iconst 0, 1) := by decide +kernel
theorem dX9_votesFor_2 : decode cX9_votesFor 2 = .ok (.putfield 57, 3) := by decide +kernel
theorem dX9_votesFor_5 : decode cX9_votesFor 5 = .ok (.aload_n 0, 1) := by decide +kernel
theorem dX9_votesFor_6 : decode cX9_votesFor 6 = .ok (.getfield 7, 3) := by decide +kernel
theorem dX9_votesFor_9 : decode cX9_votesFor 9 = .ok (.bipush 7, 2) := by decide +kernel
theorem dX9_votesFor_11 : decode cX9_votesFor 11 = .ok (.iaload, 1) := by decide +kernel
theorem dX9_votesFor_12 : decode cX9_votesFor 12 = .ok (.invokestatic 115, 3) := by decide +kernel
theorem dX9_votesFor_15 : decode cX9_votesFor 15 = .ok (.ireturn, 1) := by decide +kernel
theorem dX9_votesAgainst_0 : decode cX9_votesAgainst 0 = .ok (.aload_n 0, 1) := by decide +kernel
theorem dX9_votesAgainst_1 : decode cX9_votesAgainst 1 = .ok (.iconst 0, 1) := by decide +kernel
theorem dX9_votesAgainst_2 : decode cX9_votesAgainst 2 = .ok (.putfield 57, 3) := by decide +kernel
theorem dX9_votesAgainst_5 : decode cX9_votesAgainst 5 = .ok (.aload_n 0, 1) := by decide +kernel
theorem dX9_votesAgainst_6 : decode cX9_votesAgainst 6 = .ok (.getfield 7, 3) := by decide +kernel
theorem dX9_votesAgainst_9 : decode cX9_votesAgainst 9 = .ok (.bipush 6, 2) := by decide +kernel
theorem dX9_votesAgainst_11 : decode cX9_votesAgainst 11 = .ok (.iaload, 1) := by decide +kernel
theorem dX9_votesAgainst_12 : decode cX9_votesAgainst 12 = .ok (.invokestatic 115, 3) := by decide +kernel
theorem dX9_votesAgainst_15 : decode cX9_votesAgainst 15 = .ok (.aload_n 0, 1) := by decide +kernel
theorem dX9_votesAgainst_16 : decode cX9_votesAgainst 16 = .ok (.getfield 7, 3) := by decide +kernel
theorem dX9_votesAgainst_19 : decode cX9_votesAgainst 19 = .ok (.bipush 7, 2) := by decide +kernel
theorem dX9_votesAgainst_21 : decode cX9_votesAgainst 21 = .ok (.iaload, 1) := by decide +kernel
theorem dX9_votesAgainst_22 : decode cX9_votesAgainst 22 = .ok (.invokestatic 115, 3) := by decide +kernel
theorem dX9_votesAgainst_25 : decode cX9_votesAgainst 25 = .ok (.isub, 1) := by decide +kernel
theorem dX9_votesAgainst_26 : decode cX9_votesAgainst 26 = .ok (.ireturn, 1) := by decide +kernel
theorem dX9_hasVoted_0 : decode cX9_hasVoted 0 = .ok (.aload_n 0, 1) := by decide +kernel
theorem dX9_hasVoted_1 : decode cX9_hasVoted 1 = .ok (.aload_n 0, 1) := by decide +kernel
theorem dX9_hasVoted_2 : decode cX9_hasVoted 2 = .ok (.iload_n 1, 1) := by decide +kernel
theorem dX9_hasVoted_3 : decode cX9_hasVoted 3 = .ok (.invokevirtual 379, 3) := by decide +kernel
theorem dX9_hasVoted_6 : decode cX9_hasVoted 6 = .ok (.ifCond .ne 7, 3) := by decide +kernel
theorem dX9_hasVoted_9 : decode cX9_hasVoted 9 = .ok (.iconst 1, 1) := by decide +kernel
theorem dX9_hasVoted_10 : decode cX9_hasVoted 10 = .ok (.goto 4, 3) := by decide +kernel
theorem dX9_hasVoted_13 : decode cX9_hasVoted 13 = .ok (.iconst 0, 1) := by decide +kernel
theorem dX9_hasVoted_14 : decode cX9_hasVoted 14 = .ok (.invokevirtual 355, 3) := by decide +kernel
theorem dX9_hasVoted_17 : decode cX9_hasVoted 17 = .ok (.ifCond .ne 22, 3) := by decide +kernel
theorem dX9_hasVoted_20 : decode cX9_hasVoted 20 = .ok (.aload_n 0, 1) := by decide +kernel
theorem dX9_hasVoted_21 : decode cX9_hasVoted 21 = .ok (.getfield 7, 3) := by decide +kernel
theorem dX9_hasVoted_24 : decode cX9_hasVoted 24 = .ok (.bipush 6, 2) := by decide +kernel
theorem dX9_hasVoted_26 : decode cX9_hasVoted 26 = .ok (.iaload, 1) := by decide +kernel
theorem dX9_hasVoted_27 : decode cX9_hasVoted 27 = .ok (.iload_n 1, 1) := by decide +kernel
theorem dX9_hasVoted_28 : decode cX9_hasVoted 28 = .ok (.ishr, 1) := by decide +kernel
theorem dX9_hasVoted_29 : decode cX9_hasVoted 29 = .ok (.iconst 1, 1) := by decide +kernel
theorem dX9_hasVoted_30 : decode cX9_hasVoted 30 = .ok (.iand, 1) := by decide +kernel
theorem dX9_hasVoted_31 : decode cX9_hasVoted 31 = .ok (.iconst 1, 1) := by decide +kernel
theorem dX9_hasVoted_32 : decode cX9_hasVoted 32 = .ok (.if_icmp .ne 7, 3) := by decide +kernel
theorem dX9_hasVoted_35 : decode cX9_hasVoted 35 = .ok (.iconst 1, 1) := by decide +kernel
theorem dX9_hasVoted_36 : decode cX9_hasVoted 36 = .ok (.goto 4, 3) := by decide +kernel
theorem dX9_hasVoted_39 : decode cX9_hasVoted 39 = .ok (.iconst 0, 1) := by decide +kernel
theorem dX9_hasVoted_40 : decode cX9_hasVoted 40 = .ok (.ireturn, 1) := by decide +kernel
theorem dX9_choirOf_0 : decode cX9_choirOf 0 = .ok (.aload_n 0, 1) := by decide +kernel
theorem dX9_choirOf_1 : decode cX9_choirOf 1 = .ok (.aload_n 0, 1) := by decide +kernel
theorem dX9_choirOf_2 : decode cX9_choirOf 2 = .ok (.iload_n 1, 1) := by decide +kernel
theorem dX9_choirOf_3 : decode cX9_choirOf 3 = .ok (.invokevirtual 379, 3) := by decide +kernel
theorem dX9_choirOf_6 : decode cX9_choirOf 6 = .ok (.ifCond .ne 7, 3) := by decide +kernel
theorem dX9_choirOf_9 : decode cX9_choirOf 9 = .ok (.iconst 1, 1) := by decide +kernel
theorem dX9_choirOf_10 : decode cX9_choirOf 10 = .ok (.goto 4, 3) := by decide +kernel
theorem dX9_choirOf_13 : decode cX9_choirOf 13 = .ok (.iconst 0, 1) := by decide +kernel
theorem dX9_choirOf_14 : decode cX9_choirOf 14 = .ok (.invokevirtual 355, 3) := by decide +kernel
theorem dX9_choirOf_17 : decode cX9_choirOf 17 = .ok (.ifCond .eq 7, 3) := by decide +kernel
theorem dX9_choirOf_20 : decode cX9_choirOf 20 = .ok (.iconst 0, 1) := by decide +kernel
theorem dX9_choirOf_21 : decode cX9_choirOf 21 = .ok (.goto 8, 3) := by decide +kernel
theorem dX9_choirOf_24 : decode cX9_choirOf 24 = .ok (.aload_n 0, 1) := by decide +kernel
theorem dX9_choirOf_25 : decode cX9_choirOf 25 = .ok (.iload_n 1, 1) := by decide +kernel
theorem dX9_choirOf_26 : decode cX9_choirOf 26 = .ok (.invokevirtual 112, 3) := by decide +kernel
theorem dX9_choirOf_29 : decode cX9_choirOf 29 = .ok (.ireturn, 1) := by decide +kernel
theorem dX9_choirCount_0 : decode cX9_choirCount 0 = .ok (.aload_n 0, 1) := by decide +kernel
theorem dX9_choirCount_1 : decode cX9_choirCount 1 = .ok (.iconst 0, 1) := by decide +kernel
theorem dX9_choirCount_2 : decode cX9_choirCount 2 = .ok (.putfield 57, 3) := by decide +kernel
theorem dX9_choirCount_5 : decode cX9_choirCount 5 = .ok (.iconst 0, 1) := by decide +kernel
theorem dX9_choirCount_6 : decode cX9_choirCount 6 = .ok (.istore_n 1, 1) := by decide +kernel
theorem dX9_choirCount_7 : decode cX9_choirCount 7 = .ok (.iconst 0, 1) := by decide +kernel
theorem dX9_choirCount_8 : decode cX9_choirCount 8 = .ok (.istore_n 2, 1) := by decide +kernel
theorem dX9_choirCount_9 : decode cX9_choirCount 9 = .ok (.iload_n 2, 1) := by decide +kernel
theorem dX9_choirCount_10 : decode cX9_choirCount 10 = .ok (.aload_n 0, 1) := by decide +kernel
theorem dX9_choirCount_11 : decode cX9_choirCount 11 = .ok (.getfield 7, 3) := by decide +kernel
theorem dX9_choirCount_14 : decode cX9_choirCount 14 = .ok (.iconst 2, 1) := by decide +kernel
theorem dX9_choirCount_15 : decode cX9_choirCount 15 = .ok (.iaload, 1) := by decide +kernel
theorem dX9_choirCount_16 : decode cX9_choirCount 16 = .ok (.if_icmp .ge 29, 3) := by decide +kernel
theorem dX9_choirCount_19 : decode cX9_choirCount 19 = .ok (.iload_n 1, 1) := by decide +kernel
theorem dX9_choirCount_20 : decode cX9_choirCount 20 = .ok (.aload_n 0, 1) := by decide +kernel
theorem dX9_choirCount_21 : decode cX9_choirCount 21 = .ok (.iload_n 2, 1) := by decide +kernel
theorem dX9_choirCount_22 : decode cX9_choirCount 22 = .ok (.invokevirtual 112, 3) := by decide +kernel
theorem dX9_choirCount_25 : decode cX9_choirCount 25 = .ok (.iconst 1, 1) := by decide +kernel
theorem dX9_choirCount_26 : decode cX9_choirCount 26 = .ok (.iload_n 2, 1) := by decide +kernel
theorem dX9_choirCount_27 : decode cX9_choirCount 27 = .ok (.ishl, 1) := by decide +kernel
theorem dX9_choirCount_28 : decode cX9_choirCount 28 = .ok (.irem, 1) := by decide +kernel
theorem dX9_choirCount_29 : decode cX9_choirCount 29 = .ok (.ifCond .ne 7, 3) := by decide +kernel
theorem dX9_choirCount_32 : decode cX9_choirCount 32 = .ok (.iconst 1, 1) := by decide +kernel
theorem dX9_choirCount_33 : decode cX9_choirCount 33 = .ok (.goto 4, 3) := by decide +kernel
theorem dX9_choirCount_36 : decode cX9_choirCount 36 = .ok (.iconst 0, 1) := by decide +kernel
theorem dX9_choirCount_37 : decode cX9_choirCount 37 = .ok (.iadd, 1) := by decide +kernel
theorem dX9_choirCount_38 : decode cX9_choirCount 38 = .ok (.istore_n 1, 1) := by decide +kernel
theorem dX9_choirCount_39 : decode cX9_choirCount 39 = .ok (.iinc 2 1, 3) := by decide +kernel
theorem dX9_choirCount_42 : decode cX9_choirCount 42 = .ok (.goto (-33), 3) := by decide +kernel
theorem dX9_choirCount_45 : decode cX9_choirCount 45 = .ok (.iload_n 1, 1) := by decide +kernel
theorem dX9_choirCount_46 : decode cX9_choirCount 46 = .ok (.ireturn, 1) := by decide +kernel
theorem dX9_largestChoir_0 : decode cX9_largestChoir 0 = .ok (.aload_n 0, 1) := by decide +kernel
theorem dX9_largestChoir_1 : decode cX9_largestChoir 1 = .ok (.iconst 0, 1) := by decide +kernel
theorem dX9_largestChoir_2 : decode cX9_largestChoir 2 = .ok (.putfield 57, 3) := by decide +kernel
theorem dX9_largestChoir_5 : decode cX9_largestChoir 5 = .ok (.aload_n 0, 1) := by decide +kernel
theorem dX9_largestChoir_6 : decode cX9_largestChoir 6 = .ok (.invokevirtual 138, 3) := by decide +kernel
theorem dX9_largestChoir_9 : decode cX9_largestChoir 9 = .ok (.ireturn, 1) := by decide +kernel
theorem dX9_nightsToFullMoon_0 : decode cX9_nightsToFullMoon 0 = .ok (.aload_n 0, 1) := by decide +kernel
theorem dX9_nightsToFullMoon_1 : decode cX9_nightsToFullMoon 1 = .ok (.iconst 0, 1) := by decide +kernel
theorem dX9_nightsToFullMoon_2 : decode cX9_nightsToFullMoon 2 = .ok (.putfield 57, 3) := by decide +kernel
theorem dX9_nightsToFullMoon_5 : decode cX9_nightsToFullMoon 5 = .ok (.iconst 1, 1) := by decide +kernel
theorem dX9_nightsToFullMoon_6 : decode cX9_nightsToFullMoon 6 = .ok (.istore_n 1, 1) := by decide +kernel
theorem dX9_nightsToFullMoon_7 : decode cX9_nightsToFullMoon 7 = .ok (.aload_n 0, 1) := by decide +kernel
theorem dX9_nightsToFullMoon_8 : decode cX9_nightsToFullMoon 8 = .ok (.getfield 7, 3) := by decide +kernel
theorem dX9_nightsToFullMoon_11 : decode cX9_nightsToFullMoon 11 = .ok (.iconst 3, 1) := by decide +kernel
theorem dX9_nightsToFullMoon_12 : decode cX9_nightsToFullMoon 12 = .ok (.iaload, 1) := by decide +kernel
theorem dX9_nightsToFullMoon_13 : decode cX9_nightsToFullMoon 13 = .ok (.iload_n 1, 1) := by decide +kernel
theorem dX9_nightsToFullMoon_14 : decode cX9_nightsToFullMoon 14 = .ok (.iadd, 1) := by decide +kernel
theorem dX9_nightsToFullMoon_15 : decode cX9_nightsToFullMoon 15 = .ok (.bipush 8, 2) := by decide +kernel
theorem dX9_nightsToFullMoon_17 : decode cX9_nightsToFullMoon 17 = .ok (.irem, 1) := by decide +kernel
theorem dX9_nightsToFullMoon_18 : decode cX9_nightsToFullMoon 18 = .ok (.iconst 4, 1) := by decide +kernel
theorem dX9_nightsToFullMoon_19 : decode cX9_nightsToFullMoon 19 = .ok (.if_icmp .eq 9, 3) := by decide +kernel
theorem dX9_nightsToFullMoon_22 : decode cX9_nightsToFullMoon 22 = .ok (.iinc 1 1, 3) := by decide +kernel
theorem dX9_nightsToFullMoon_25 : decode cX9_nightsToFullMoon 25 = .ok (.goto (-18), 3) := by decide +kernel
theorem dX9_nightsToFullMoon_28 : decode cX9_nightsToFullMoon 28 = .ok (.iload_n 1, 1) := by decide +kernel
theorem dX9_nightsToFullMoon_29 : decode cX9_nightsToFullMoon 29 = .ok (.ireturn, 1) := by decide +kernel
theorem dX9_fishAfter_0 : decode cX9_fishAfter 0 = .ok (.aload_n 0, 1) := by decide +kernel
theorem dX9_fishAfter_1 : decode cX9_fishAfter 1 = .ok (.aload_n 0, 1) := by decide +kernel
theorem dX9_fishAfter_2 : decode cX9_fishAfter 2 = .ok (.iload_n 1, 1) := by decide +kernel
theorem dX9_fishAfter_3 : decode cX9_fishAfter 3 = .ok (.invokevirtual 379, 3) := by decide +kernel
theorem dX9_fishAfter_6 : decode cX9_fishAfter 6 = .ok (.ifCond .ne 7, 3) := by decide +kernel
theorem dX9_fishAfter_9 : decode cX9_fishAfter 9 = .ok (.iconst 1, 1) := by decide +kernel
theorem dX9_fishAfter_10 : decode cX9_fishAfter 10 = .ok (.goto 4, 3) := by decide +kernel
theorem dX9_fishAfter_13 : decode cX9_fishAfter 13 = .ok (.iconst 0, 1) := by decide +kernel
theorem dX9_fishAfter_14 : decode cX9_fishAfter 14 = .ok (.iload_n 2, 1) := by decide +kernel
theorem dX9_fishAfter_15 : decode cX9_fishAfter 15 = .ok (.iconst 0, 1) := by decide +kernel
theorem dX9_fishAfter_16 : decode cX9_fishAfter 16 = .ok (.bipush 30, 2) := by decide +kernel
theorem dX9_fishAfter_18 : decode cX9_fishAfter 18 = .ok (.invokestatic 60, 3) := by decide +kernel
theorem dX9_fishAfter_21 : decode cX9_fishAfter 21 = .ok (.ifCond .ne 7, 3) := by decide +kernel
theorem dX9_fishAfter_24 : decode cX9_fishAfter 24 = .ok (.iconst 1, 1) := by decide +kernel
theorem dX9_fishAfter_25 : decode cX9_fishAfter 25 = .ok (.goto 4, 3) := by decide +kernel
theorem dX9_fishAfter_28 : decode cX9_fishAfter 28 = .ok (.iconst 0, 1) := by decide +kernel
theorem dX9_fishAfter_29 : decode cX9_fishAfter 29 = .ok (.invokevirtual 367, 3) := by decide +kernel
theorem dX9_fishAfter_32 : decode cX9_fishAfter 32 = .ok (.ifCond .eq 5, 3) := by decide +kernel
theorem dX9_fishAfter_35 : decode cX9_fishAfter 35 = .ok (.iconst 0, 1) := by decide +kernel
theorem dX9_fishAfter_36 : decode cX9_fishAfter 36 = .ok (.ireturn, 1) := by decide +kernel
theorem dX9_fishAfter_37 : decode cX9_fishAfter 37 = .ok (.iconst 0, 1) := by decide +kernel
theorem dX9_fishAfter_38 : decode cX9_fishAfter 38 = .ok (.istore_n 3, 1) := by decide +kernel
theorem dX9_fishAfter_39 : decode cX9_fishAfter 39 = .ok (.iload_n 3, 1) := by decide +kernel
theorem dX9_fishAfter_40 : decode cX9_fishAfter 40 = .ok (.sipush 186, 3) := by decide +kernel
theorem dX9_fishAfter_43 : decode cX9_fishAfter 43 = .ok (.if_icmp .ge 21, 3) := by decide +kernel
theorem dX9_fishAfter_46 : decode cX9_fishAfter 46 = .ok (.aload_n 0, 1) := by decide +kernel
theorem dX9_fishAfter_47 : decode cX9_fishAfter 47 = .ok (.getfield 16, 3) := by decide +kernel
theorem dX9_fishAfter_50 : decode cX9_fishAfter 50 = .ok (.iload_n 3, 1) := by decide +kernel
theorem dX9_fishAfter_51 : decode cX9_fishAfter 51 = .ok (.aload_n 0, 1) := by decide +kernel
theorem dX9_fishAfter_52 : decode cX9_fishAfter 52 = .ok (.getfield 7, 3) := by decide +kernel
theorem dX9_fishAfter_55 : decode cX9_fishAfter 55 = .ok (.iload_n 3, 1) := by decide +kernel
theorem dX9_fishAfter_56 : decode cX9_fishAfter 56 = .ok (.iaload, 1) := by decide +kernel
theorem dX9_fishAfter_57 : decode cX9_fishAfter 57 = .ok (.iastore, 1) := by decide +kernel
theorem dX9_fishAfter_58 : decode cX9_fishAfter 58 = .ok (.iinc 3 1, 3) := by decide +kernel
theorem dX9_fishAfter_61 : decode cX9_fishAfter 61 = .ok (.goto (-22), 3) := by decide +kernel
theorem dX9_fishAfter_64 : decode cX9_fishAfter 64 = .ok (.aload_n 0, 1) := by decide +kernel
theorem dX9_fishAfter_65 : decode cX9_fishAfter 65 = .ok (.iload_n 2, 1) := by decide +kernel
theorem dX9_fishAfter_66 : decode cX9_fishAfter 66 = .ok (.invokevirtual 261, 3) := by decide +kernel
theorem dX9_fishAfter_69 : decode cX9_fishAfter 69 = .ok (.pop, 1) := by decide +kernel
theorem dX9_fishAfter_70 : decode cX9_fishAfter 70 = .ok (.aload_n 0, 1) := by decide +kernel
theorem dX9_fishAfter_71 : decode cX9_fishAfter 71 = .ok (.iload_n 1, 1) := by decide +kernel
theorem dX9_fishAfter_72 : decode cX9_fishAfter 72 = .ok (.iconst 2, 1) := by decide +kernel
theorem dX9_fishAfter_73 : decode cX9_fishAfter 73 = .ok (.invokevirtual 64, 3) := by decide +kernel
theorem dX9_fishAfter_76 : decode cX9_fishAfter 76 = .ok (.istore_n 3, 1) := by decide +kernel
theorem dX9_fishAfter_77 : decode cX9_fishAfter 77 = .ok (.iconst 0, 1) := by decide +kernel
theorem dX9_fishAfter_78 : decode cX9_fishAfter 78 = .ok (.istore 4, 2) := by decide +kernel
theorem dX9_fishAfter_80 : decode cX9_fishAfter 80 = .ok (.iload 4, 2) := by decide +kernel
theorem dX9_fishAfter_82 : decode cX9_fishAfter 82 = .ok (.sipush 186, 3) := by decide +kernel
theorem dX9_fishAfter_85 : decode cX9_fishAfter 85 = .ok (.if_icmp .ge 23, 3) := by decide +kernel
theorem dX9_fishAfter_88 : decode cX9_fishAfter 88 = .ok (.aload_n 0, 1) := by decide +kernel
theorem dX9_fishAfter_89 : decode cX9_fishAfter 89 = .ok (.getfield 7, 3) := by decide +kernel
theorem dX9_fishAfter_92 : decode cX9_fishAfter 92 = .ok (.iload 4, 2) := by decide +kernel
theorem dX9_fishAfter_94 : decode cX9_fishAfter 94 = .ok (.aload_n 0, 1) := by decide +kernel
theorem dX9_fishAfter_95 : decode cX9_fishAfter 95 = .ok (.getfield 16, 3) := by decide +kernel
theorem dX9_fishAfter_98 : decode cX9_fishAfter 98 = .ok (.iload 4, 2) := by decide +kernel
theorem dX9_fishAfter_100 : decode cX9_fishAfter 100 = .ok (.iaload, 1) := by decide +kernel
theorem dX9_fishAfter_101 : decode cX9_fishAfter 101 = .ok (.iastore, 1) := by decide +kernel
theorem dX9_fishAfter_102 : decode cX9_fishAfter 102 = .ok (.iinc 4 1, 3) := by decide +kernel
theorem dX9_fishAfter_105 : decode cX9_fishAfter 105 = .ok (.goto (-25), 3) := by decide +kernel
theorem dX9_fishAfter_108 : decode cX9_fishAfter 108 = .ok (.iload_n 3, 1) := by decide +kernel
theorem dX9_fishAfter_109 : decode cX9_fishAfter 109 = .ok (.ireturn, 1) := by decide +kernel
theorem dX9_richestCat_0 : decode cX9_richestCat 0 = .ok (.aload_n 0, 1) := by decide +kernel
theorem dX9_richestCat_1 : decode cX9_richestCat 1 = .ok (.iconst 0, 1) := by decide +kernel
theorem dX9_richestCat_2 : decode cX9_richestCat 2 = .ok (.putfield 57, 3) := by decide +kernel
theorem dX9_richestCat_5 : decode cX9_richestCat 5 = .ok (.iconst (-1), 1) := by decide +kernel
theorem dX9_richestCat_6 : decode cX9_richestCat 6 = .ok (.istore_n 1, 1) := by decide +kernel
theorem dX9_richestCat_7 : decode cX9_richestCat 7 = .ok (.iconst 0, 1) := by decide +kernel
theorem dX9_richestCat_8 : decode cX9_richestCat 8 = .ok (.istore_n 2, 1) := by decide +kernel
theorem dX9_richestCat_9 : decode cX9_richestCat 9 = .ok (.iload_n 2, 1) := by decide +kernel
theorem dX9_richestCat_10 : decode cX9_richestCat 10 = .ok (.aload_n 0, 1) := by decide +kernel
theorem dX9_richestCat_11 : decode cX9_richestCat 11 = .ok (.getfield 7, 3) := by decide +kernel
theorem dX9_richestCat_14 : decode cX9_richestCat 14 = .ok (.iconst 2, 1) := by decide +kernel
theorem dX9_richestCat_15 : decode cX9_richestCat 15 = .ok (.iaload, 1) := by decide +kernel
theorem dX9_richestCat_16 : decode cX9_richestCat 16 = .ok (.if_icmp .ge 31, 3) := by decide +kernel
theorem dX9_richestCat_19 : decode cX9_richestCat 19 = .ok (.iload_n 1, 1) := by decide +kernel
theorem dX9_richestCat_20 : decode cX9_richestCat 20 = .ok (.iconst (-1), 1) := by decide +kernel
theorem dX9_richestCat_21 : decode cX9_richestCat 21 = .ok (.if_icmp .eq 18, 3) := by decide +kernel
theorem dX9_richestCat_24 : decode cX9_richestCat 24 = .ok (.aload_n 0, 1) := by decide +kernel
theorem dX9_richestCat_25 : decode cX9_richestCat 25 = .ok (.iload_n 2, 1) := by decide +kernel
theorem dX9_richestCat_26 : decode cX9_richestCat 26 = .ok (.iconst 2, 1) := by decide +kernel
theorem dX9_richestCat_27 : decode cX9_richestCat 27 = .ok (.invokevirtual 64, 3) := by decide +kernel
theorem dX9_richestCat_30 : decode cX9_richestCat 30 = .ok (.aload_n 0, 1) := by decide +kernel
theorem dX9_richestCat_31 : decode cX9_richestCat 31 = .ok (.iload_n 1, 1) := by decide +kernel
theorem dX9_richestCat_32 : decode cX9_richestCat 32 = .ok (.iconst 2, 1) := by decide +kernel
theorem dX9_richestCat_33 : decode cX9_richestCat 33 = .ok (.invokevirtual 64, 3) := by decide +kernel
theorem dX9_richestCat_36 : decode cX9_richestCat 36 = .ok (.if_icmp .le 5, 3) := by decide +kernel
theorem dX9_richestCat_39 : decode cX9_richestCat 39 = .ok (.iload_n 2, 1) := by decide +kernel
theorem dX9_richestCat_40 : decode cX9_richestCat 40 = .ok (.istore_n 1, 1) := by decide +kernel
theorem dX9_richestCat_41 : decode cX9_richestCat 41 = .ok (.iinc 2 1, 3) := by decide +kernel
theorem dX9_richestCat_44 : decode cX9_richestCat 44 = .ok (.goto (-35), 3) := by decide +kernel
theorem dX9_richestCat_47 : decode cX9_richestCat 47 = .ok (.iload_n 1, 1) := by decide +kernel
theorem dX9_richestCat_48 : decode cX9_richestCat 48 = .ok (.ireturn, 1) := by decide +kernel
theorem dX9_allFish_0 : decode cX9_allFish 0 = .ok (.iconst 0, 1) := by decide +kernel
theorem dX9_allFish_1 : decode cX9_allFish 1 = .ok (.istore_n 1, 1) := by decide +kernel
theorem dX9_allFish_2 : decode cX9_allFish 2 = .ok (.iconst 0, 1) := by decide +kernel
theorem dX9_allFish_3 : decode cX9_allFish 3 = .ok (.istore_n 2, 1) := by decide +kernel
theorem dX9_allFish_4 : decode cX9_allFish 4 = .ok (.iload_n 2, 1) := by decide +kernel
theorem dX9_allFish_5 : decode cX9_allFish 5 = .ok (.aload_n 0, 1) := by decide +kernel
theorem dX9_allFish_6 : decode cX9_allFish 6 = .ok (.getfield 7, 3) := by decide +kernel
theorem dX9_allFish_9 : decode cX9_allFish 9 = .ok (.iconst 2, 1) := by decide +kernel
theorem dX9_allFish_10 : decode cX9_allFish 10 = .ok (.iaload, 1) := by decide +kernel
theorem dX9_allFish_11 : decode cX9_allFish 11 = .ok (.if_icmp .ge 18, 3) := by decide +kernel
theorem dX9_allFish_14 : decode cX9_allFish 14 = .ok (.iload_n 1, 1) := by decide +kernel
theorem dX9_allFish_15 : decode cX9_allFish 15 = .ok (.aload_n 0, 1) := by decide +kernel
theorem dX9_allFish_16 : decode cX9_allFish 16 = .ok (.iload_n 2, 1) := by decide +kernel
theorem dX9_allFish_17 : decode cX9_allFish 17 = .ok (.iconst 2, 1) := by decide +kernel
theorem dX9_allFish_18 : decode cX9_allFish 18 = .ok (.invokevirtual 64, 3) := by decide +kernel
theorem dX9_allFish_21 : decode cX9_allFish 21 = .ok (.iadd, 1) := by decide +kernel
theorem dX9_allFish_22 : decode cX9_allFish 22 = .ok (.istore_n 1, 1) := by decide +kernel
theorem dX9_allFish_23 : decode cX9_allFish 23 = .ok (.iinc 2 1, 3) := by decide +kernel
theorem dX9_allFish_26 : decode cX9_allFish 26 = .ok (.goto (-22), 3) := by decide +kernel
theorem dX9_allFish_29 : decode cX9_allFish 29 = .ok (.iload_n 1, 1) := by decide +kernel
theorem dX9_allFish_30 : decode cX9_allFish 30 = .ok (.ireturn, 1) := by decide +kernel
theorem dX9_totalFish_0 : decode cX9_totalFish 0 = .ok (.aload_n 0, 1) := by decide +kernel
theorem dX9_totalFish_1 : decode cX9_totalFish 1 = .ok (.iconst 0, 1) := by decide +kernel
theorem dX9_totalFish_2 : decode cX9_totalFish 2 = .ok (.putfield 57, 3) := by decide +kernel
theorem dX9_totalFish_5 : decode cX9_totalFish 5 = .ok (.aload_n 0, 1) := by decide +kernel
theorem dX9_totalFish_6 : decode cX9_totalFish 6 = .ok (.invokevirtual 404, 3) := by decide +kernel
theorem dX9_totalFish_9 : decode cX9_totalFish 9 = .ok (.ireturn, 1) := by decide +kernel
theorem dX9_meanFish_0 : decode cX9_meanFish 0 = .ok (.aload_n 0, 1) := by decide +kernel
theorem dX9_meanFish_1 : decode cX9_meanFish 1 = .ok (.iconst 0, 1) := by decide +kernel
theorem dX9_meanFish_2 : decode cX9_meanFish 2 = .ok (.putfield 57, 3) := by decide +kernel
theorem dX9_meanFish_5 : decode cX9_meanFish 5 = .ok (.aload_n 0, 1) := by decide +kernel
theorem dX9_meanFish_6 : decode cX9_meanFish 6 = .ok (.getfield 7, 3) := by decide +kernel
theorem dX9_meanFish_9 : decode cX9_meanFish 9 = .ok (.iconst 2, 1) := by decide +kernel
theorem dX9_meanFish_10 : decode cX9_meanFish 10 = .ok (.iaload, 1) := by decide +kernel
theorem dX9_meanFish_11 : decode cX9_meanFish 11 = .ok (.ifCond .ne 7, 3) := by decide +kernel
theorem dX9_meanFish_14 : decode cX9_meanFish 14 = .ok (.dconst 0, 1) := by decide +kernel
theorem dX9_meanFish_15 : decode cX9_meanFish 15 = .ok (.goto 16, 3) := by decide +kernel
theorem dX9_meanFish_18 : decode cX9_meanFish 18 = .ok (.aload_n 0, 1) := by decide +kernel
theorem dX9_meanFish_19 : decode cX9_meanFish 19 = .ok (.invokevirtual 404, 3) := by decide +kernel
theorem dX9_meanFish_22 : decode cX9_meanFish 22 = .ok (.i2d, 1) := by decide +kernel
theorem dX9_meanFish_23 : decode cX9_meanFish 23 = .ok (.aload_n 0, 1) := by decide +kernel
theorem dX9_meanFish_24 : decode cX9_meanFish 24 = .ok (.getfield 7, 3) := by decide +kernel
theorem dX9_meanFish_27 : decode cX9_meanFish 27 = .ok (.iconst 2, 1) := by decide +kernel
theorem dX9_meanFish_28 : decode cX9_meanFish 28 = .ok (.iaload, 1) := by decide +kernel
theorem dX9_meanFish_29 : decode cX9_meanFish 29 = .ok (.i2d, 1) := by decide +kernel
theorem dX9_meanFish_30 : decode cX9_meanFish 30 = .ok (.ddiv, 1) := by decide +kernel
theorem dX9_meanFish_31 : decode cX9_meanFish 31 = .ok (.dreturn, 1) := by decide +kernel
theorem dX9_ownedShare_0 : decode cX9_ownedShare 0 = .ok (.aload_n 0, 1) := by decide +kernel
theorem dX9_ownedShare_1 : decode cX9_ownedShare 1 = .ok (.iconst 0, 1) := by decide +kernel
theorem dX9_ownedShare_2 : decode cX9_ownedShare 2 = .ok (.putfield 57, 3) := by decide +kernel
theorem dX9_ownedShare_5 : decode cX9_ownedShare 5 = .ok (.iconst 0, 1) := by decide +kernel
theorem dX9_ownedShare_6 : decode cX9_ownedShare 6 = .ok (.istore_n 1, 1) := by decide +kernel
theorem dX9_ownedShare_7 : decode cX9_ownedShare 7 = .ok (.iconst 0, 1) := by decide +kernel
theorem dX9_ownedShare_8 : decode cX9_ownedShare 8 = .ok (.istore_n 2, 1) := by decide +kernel
theorem dX9_ownedShare_9 : decode cX9_ownedShare 9 = .ok (.iload_n 2, 1) := by decide +kernel
theorem dX9_ownedShare_10 : decode cX9_ownedShare 10 = .ok (.aload_n 0, 1) := by decide +kernel
theorem dX9_ownedShare_11 : decode cX9_ownedShare 11 = .ok (.getfield 7, 3) := by decide +kernel
theorem dX9_ownedShare_14 : decode cX9_ownedShare 14 = .ok (.iconst 0, 1) := by decide +kernel
theorem dX9_ownedShare_15 : decode cX9_ownedShare 15 = .ok (.iaload, 1) := by decide +kernel
theorem dX9_ownedShare_16 : decode cX9_ownedShare 16 = .ok (.if_icmp .ge 26, 3) := by decide +kernel
theorem dX9_ownedShare_19 : decode cX9_ownedShare 19 = .ok (.iload_n 1, 1) := by decide +kernel
theorem dX9_ownedShare_20 : decode cX9_ownedShare 20 = .ok (.aload_n 0, 1) := by decide +kernel
theorem dX9_ownedShare_21 : decode cX9_ownedShare 21 = .ok (.iload_n 2, 1) := by decide +kernel
theorem dX9_ownedShare_22 : decode cX9_ownedShare 22 = .ok (.invokevirtual 68, 3) := by decide +kernel
theorem dX9_ownedShare_25 : decode cX9_ownedShare 25 = .ok (.iconst (-1), 1) := by decide +kernel
theorem dX9_ownedShare_26 : decode cX9_ownedShare 26 = .ok (.if_icmp .ne 7, 3) := by decide +kernel
theorem dX9_ownedShare_29 : decode cX9_ownedShare 29 = .ok (.iconst 0, 1) := by decide +kernel
theorem dX9_ownedShare_30 : decode cX9_ownedShare 30 = .ok (.goto 4, 3) := by decide +kernel
theorem dX9_ownedShare_33 : decode cX9_ownedShare 33 = .ok (.iconst 1, 1) := by decide +kernel
theorem dX9_ownedShare_34 : decode cX9_ownedShare 34 = .ok (.iadd, 1) := by decide +kernel
theorem dX9_ownedShare_35 : decode cX9_ownedShare 35 = .ok (.istore_n 1, 1) := by decide +kernel
theorem dX9_ownedShare_36 : decode cX9_ownedShare 36 = .ok (.iinc 2 1, 3) := by decide +kernel
theorem dX9_ownedShare_39 : decode cX9_ownedShare 39 = .ok (.goto (-30), 3) := by decide +kernel
theorem dX9_ownedShare_42 : decode cX9_ownedShare 42 = .ok (.aload_n 0, 1) := by decide +kernel
theorem dX9_ownedShare_43 : decode cX9_ownedShare 43 = .ok (.getfield 7, 3) := by decide +kernel
theorem dX9_ownedShare_46 : decode cX9_ownedShare 46 = .ok (.iconst 0, 1) := by decide +kernel
theorem dX9_ownedShare_47 : decode cX9_ownedShare 47 = .ok (.iaload, 1) := by decide +kernel
theorem dX9_ownedShare_48 : decode cX9_ownedShare 48 = .ok (.ifCond .ne 7, 3) := by decide +kernel
theorem dX9_ownedShare_51 : decode cX9_ownedShare 51 = .ok (.fconst 0, 1) := by decide +kernel
theorem dX9_ownedShare_52 : decode cX9_ownedShare 52 = .ok (.goto 13, 3) := by decide +kernel
theorem dX9_ownedShare_55 : decode cX9_ownedShare 55 = .ok (.iload_n 1, 1) := by decide +kernel
theorem dX9_ownedShare_56 : decode cX9_ownedShare 56 = .ok (.i2f, 1) := by decide +kernel
theorem dX9_ownedShare_57 : decode cX9_ownedShare 57 = .ok (.aload_n 0, 1) := by decide +kernel
theorem dX9_ownedShare_58 : decode cX9_ownedShare 58 = .ok (.getfield 7, 3) := by decide +kernel
theorem dX9_ownedShare_61 : decode cX9_ownedShare 61 = .ok (.iconst 0, 1) := by decide +kernel
theorem dX9_ownedShare_62 : decode cX9_ownedShare 62 = .ok (.iaload, 1) := by decide +kernel
theorem dX9_ownedShare_63 : decode cX9_ownedShare 63 = .ok (.i2f, 1) := by decide +kernel
theorem dX9_ownedShare_64 : decode cX9_ownedShare 64 = .ok (.fdiv, 1) := by decide +kernel
theorem dX9_ownedShare_65 : decode cX9_ownedShare 65 = .ok (.freturn, 1) := by decide +kernel
theorem dX9_isCrowded_0 : decode cX9_isCrowded 0 = .ok (.iconst 0, 1) := by decide +kernel
theorem dX9_isCrowded_1 : decode cX9_isCrowded 1 = .ok (.istore_n 2, 1) := by decide +kernel
theorem dX9_isCrowded_2 : decode cX9_isCrowded 2 = .ok (.iconst 0, 1) := by decide +kernel
theorem dX9_isCrowded_3 : decode cX9_isCrowded 3 = .ok (.istore_n 3, 1) := by decide +kernel
theorem dX9_isCrowded_4 : decode cX9_isCrowded 4 = .ok (.iload_n 3, 1) := by decide +kernel
theorem dX9_isCrowded_5 : decode cX9_isCrowded 5 = .ok (.aload_n 0, 1) := by decide +kernel
theorem dX9_isCrowded_6 : decode cX9_isCrowded 6 = .ok (.getfield 7, 3) := by decide +kernel
theorem dX9_isCrowded_9 : decode cX9_isCrowded 9 = .ok (.iconst 2, 1) := by decide +kernel
theorem dX9_isCrowded_10 : decode cX9_isCrowded 10 = .ok (.iaload, 1) := by decide +kernel
theorem dX9_isCrowded_11 : decode cX9_isCrowded 11 = .ok (.if_icmp .ge 27, 3) := by decide +kernel
theorem dX9_isCrowded_14 : decode cX9_isCrowded 14 = .ok (.iload_n 2, 1) := by decide +kernel
theorem dX9_isCrowded_15 : decode cX9_isCrowded 15 = .ok (.aload_n 0, 1) := by decide +kernel
theorem dX9_isCrowded_16 : decode cX9_isCrowded 16 = .ok (.iload_n 3, 1) := by decide +kernel
theorem dX9_isCrowded_17 : decode cX9_isCrowded 17 = .ok (.iconst 3, 1) := by decide +kernel
theorem dX9_isCrowded_18 : decode cX9_isCrowded 18 = .ok (.invokevirtual 64, 3) := by decide +kernel
theorem dX9_isCrowded_21 : decode cX9_isCrowded 21 = .ok (.iload_n 1, 1) := by decide +kernel
theorem dX9_isCrowded_22 : decode cX9_isCrowded 22 = .ok (.if_icmp .ne 7, 3) := by decide +kernel
theorem dX9_isCrowded_25 : decode cX9_isCrowded 25 = .ok (.iconst 1, 1) := by decide +kernel
theorem dX9_isCrowded_26 : decode cX9_isCrowded 26 = .ok (.goto 4, 3) := by decide +kernel
theorem dX9_isCrowded_29 : decode cX9_isCrowded 29 = .ok (.iconst 0, 1) := by decide +kernel
theorem dX9_isCrowded_30 : decode cX9_isCrowded 30 = .ok (.iadd, 1) := by decide +kernel
theorem dX9_isCrowded_31 : decode cX9_isCrowded 31 = .ok (.istore_n 2, 1) := by decide +kernel
theorem dX9_isCrowded_32 : decode cX9_isCrowded 32 = .ok (.iinc 3 1, 3) := by decide +kernel
theorem dX9_isCrowded_35 : decode cX9_isCrowded 35 = .ok (.goto (-31), 3) := by decide +kernel
theorem dX9_isCrowded_38 : decode cX9_isCrowded 38 = .ok (.iload_n 2, 1) := by decide +kernel
theorem dX9_isCrowded_39 : decode cX9_isCrowded 39 = .ok (.iconst 1, 1) := by decide +kernel
theorem dX9_isCrowded_40 : decode cX9_isCrowded 40 = .ok (.if_icmp .le 7, 3) := by decide +kernel
theorem dX9_isCrowded_43 : decode cX9_isCrowded 43 = .ok (.iconst 1, 1) := by decide +kernel
theorem dX9_isCrowded_44 : decode cX9_isCrowded 44 = .ok (.goto 4, 3) := by decide +kernel
theorem dX9_isCrowded_47 : decode cX9_isCrowded 47 = .ok (.iconst 0, 1) := by decide +kernel
theorem dX9_isCrowded_48 : decode cX9_isCrowded 48 = .ok (.ireturn, 1) := by decide +kernel
theorem dX9_violations_0 : decode cX9_violations 0 = .ok (.aload_n 0, 1) := by decide +kernel
theorem dX9_violations_1 : decode cX9_violations 1 = .ok (.iconst 0, 1) := by decide +kernel
theorem dX9_violations_2 : decode cX9_violations 2 = .ok (.putfield 57, 3) := by decide +kernel
theorem dX9_violations_5 : decode cX9_violations 5 = .ok (.aload_n 0, 1) := by decide +kernel
theorem dX9_violations_6 : decode cX9_violations 6 = .ok (.invokevirtual 404, 3) := by decide +kernel
theorem dX9_violations_9 : decode cX9_violations 9 = .ok (.iconst 5, 1) := by decide +kernel
theorem dX9_violations_10 : decode cX9_violations 10 = .ok (.aload_n 0, 1) := by decide +kernel
theorem dX9_violations_11 : decode cX9_violations 11 = .ok (.getfield 7, 3) := by decide +kernel
theorem dX9_violations_14 : decode cX9_violations 14 = .ok (.iconst 2, 1) := by decide +kernel
theorem dX9_violations_15 : decode cX9_violations 15 = .ok (.iaload, 1) := by decide +kernel
theorem dX9_violations_16 : decode cX9_violations 16 = .ok (.imul, 1) := by decide +kernel
theorem dX9_violations_17 : decode cX9_violations 17 = .ok (.isub, 1) := by decide +kernel
theorem dX9_violations_18 : decode cX9_violations 18 = .ok (.aload_n 0, 1) := by decide +kernel
theorem dX9_violations_19 : decode cX9_violations 19 = .ok (.getfield 7, 3) := by decide +kernel
theorem dX9_violations_22 : decode cX9_violations 22 = .ok (.bipush 8, 2) := by decide +kernel
theorem dX9_violations_24 : decode cX9_violations 24 = .ok (.iaload, 1) := by decide +kernel
theorem dX9_violations_25 : decode cX9_violations 25 = .ok (.isub, 1) := by decide +kernel
theorem dX9_violations_26 : decode cX9_violations 26 = .ok (.aload_n 0, 1) := by decide +kernel
theorem dX9_violations_27 : decode cX9_violations 27 = .ok (.getfield 7, 3) := by decide +kernel
theorem dX9_violations_30 : decode cX9_violations 30 = .ok (.bipush 9, 2) := by decide +kernel
theorem dX9_violations_32 : decode cX9_violations 32 = .ok (.iaload, 1) := by decide +kernel
theorem dX9_violations_33 : decode cX9_violations 33 = .ok (.iadd, 1) := by decide +kernel
theorem dX9_violations_34 : decode cX9_violations 34 = .ok (.istore_n 1, 1) := by decide +kernel
theorem dX9_violations_35 : decode cX9_violations 35 = .ok (.iload_n 1, 1) := by decide +kernel
theorem dX9_violations_36 : decode cX9_violations 36 = .ok (.ifCond .ge 8, 3) := by decide +kernel
theorem dX9_violations_39 : decode cX9_violations 39 = .ok (.iload_n 1, 1) := by decide +kernel
theorem dX9_violations_40 : decode cX9_violations 40 = .ok (.ineg, 1) := by decide +kernel
theorem dX9_violations_41 : decode cX9_violations 41 = .ok (.goto 4, 3) := by decide +kernel
theorem dX9_violations_44 : decode cX9_violations 44 = .ok (.iload_n 1, 1) := by decide +kernel
theorem dX9_violations_45 : decode cX9_violations 45 = .ok (.istore_n 2, 1) := by decide +kernel
theorem dX9_violations_46 : decode cX9_violations 46 = .ok (.iconst 0, 1) := by decide +kernel
theorem dX9_violations_47 : decode cX9_violations 47 = .ok (.istore_n 3, 1) := by decide +kernel
theorem dX9_violations_48 : decode cX9_violations 48 = .ok (.iload_n 3, 1) := by decide +kernel
theorem dX9_violations_49 : decode cX9_violations 49 = .ok (.aload_n 0, 1) := by decide +kernel
theorem dX9_violations_50 : decode cX9_violations 50 = .ok (.getfield 7, 3) := by decide +kernel
theorem dX9_violations_53 : decode cX9_violations 53 = .ok (.iconst 0, 1) := by decide +kernel
theorem dX9_violations_54 : decode cX9_violations 54 = .ok (.iaload, 1) := by decide +kernel
theorem dX9_violations_55 : decode cX9_violations 55 = .ok (.if_icmp .ge 25, 3) := by decide +kernel
theorem dX9_violations_58 : decode cX9_violations 58 = .ok (.iload_n 2, 1) := by decide +kernel
theorem dX9_violations_59 : decode cX9_violations 59 = .ok (.aload_n 0, 1) := by decide +kernel
theorem dX9_violations_60 : decode cX9_violations 60 = .ok (.iload_n 3, 1) := by decide +kernel
theorem dX9_violations_61 : decode cX9_violations 61 = .ok (.invokevirtual 407, 3) := by decide +kernel
theorem dX9_violations_64 : decode cX9_violations 64 = .ok (.ifCond .eq 7, 3) := by decide +kernel
theorem dX9_violations_67 : decode cX9_violations 67 = .ok (.iconst 1, 1) := by decide +kernel
theorem dX9_violations_68 : decode cX9_violations 68 = .ok (.goto 4, 3) := by decide +kernel
theorem dX9_violations_71 : decode cX9_violations 71 = .ok (.iconst 0, 1) := by decide +kernel
theorem dX9_violations_72 : decode cX9_violations 72 = .ok (.iadd, 1) := by decide +kernel
theorem dX9_violations_73 : decode cX9_violations 73 = .ok (.istore_n 2, 1) := by decide +kernel
theorem dX9_violations_74 : decode cX9_violations 74 = .ok (.iinc 3 1, 3) := by decide +kernel
theorem dX9_violations_77 : decode cX9_violations 77 = .ok (.goto (-29), 3) := by decide +kernel
theorem dX9_violations_80 : decode cX9_violations 80 = .ok (.iconst 0, 1) := by decide +kernel
theorem dX9_violations_81 : decode cX9_violations 81 = .ok (.istore_n 3, 1) := by decide +kernel
theorem dX9_violations_82 : decode cX9_violations 82 = .ok (.iload_n 3, 1) := by decide +kernel
theorem dX9_violations_83 : decode cX9_violations 83 = .ok (.aload_n 0, 1) := by decide +kernel
theorem dX9_violations_84 : decode cX9_violations 84 = .ok (.getfield 7, 3) := by decide +kernel
theorem dX9_violations_87 : decode cX9_violations 87 = .ok (.iconst 2, 1) := by decide +kernel
theorem dX9_violations_88 : decode cX9_violations 88 = .ok (.iaload, 1) := by decide +kernel
theorem dX9_violations_89 : decode cX9_violations 89 = .ok (.if_icmp .ge 49, 3) := by decide +kernel
theorem dX9_violations_92 : decode cX9_violations 92 = .ok (.iload_n 2, 1) := by decide +kernel
theorem dX9_violations_93 : decode cX9_violations 93 = .ok (.aload_n 0, 1) := by decide +kernel
theorem dX9_violations_94 : decode cX9_violations 94 = .ok (.iload_n 3, 1) := by decide +kernel
theorem dX9_violations_95 : decode cX9_violations 95 = .ok (.invokevirtual 99, 3) := by decide +kernel
theorem dX9_violations_98 : decode cX9_violations 98 = .ok (.iconst 4, 1) := by decide +kernel
theorem dX9_violations_99 : decode cX9_violations 99 = .ok (.if_icmp .le 7, 3) := by decide +kernel
theorem dX9_violations_102 : decode cX9_violations 102 = .ok (.iconst 1, 1) := by decide +kernel
theorem dX9_violations_103 : decode cX9_violations 103 = .ok (.goto 4, 3) := by decide +kernel
theorem dX9_violations_106 : decode cX9_violations 106 = .ok (.iconst 0, 1) := by decide +kernel
theorem dX9_violations_107 : decode cX9_violations 107 = .ok (.iadd, 1) := by decide +kernel
theorem dX9_violations_108 : decode cX9_violations 108 = .ok (.istore_n 2, 1) := by decide +kernel
theorem dX9_violations_109 : decode cX9_violations 109 = .ok (.iload_n 2, 1) := by decide +kernel
theorem dX9_violations_110 : decode cX9_violations 110 = .ok (.aload_n 0, 1) := by decide +kernel
theorem dX9_violations_111 : decode cX9_violations 111 = .ok (.iload_n 3, 1) := by decide +kernel
theorem dX9_violations_112 : decode cX9_violations 112 = .ok (.iconst 2, 1) := by decide +kernel
theorem dX9_violations_113 : decode cX9_violations 113 = .ok (.invokevirtual 64, 3) := by decide +kernel
theorem dX9_violations_116 : decode cX9_violations 116 = .ok (.iconst 0, 1) := by decide +kernel
theorem dX9_violations_117 : decode cX9_violations 117 = .ok (.bipush 99, 2) := by decide +kernel
theorem dX9_violations_119 : decode cX9_violations 119 = .ok (.invokestatic 60, 3) := by decide +kernel
theorem dX9_violations_122 : decode cX9_violations 122 = .ok (.ifCond .eq 7, 3) := by decide +kernel
theorem dX9_violations_125 : decode cX9_violations 125 = .ok (.iconst 0, 1) := by decide +kernel
theorem dX9_violations_126 : decode cX9_violations 126 = .ok (.goto 4, 3) := by decide +kernel
theorem dX9_violations_129 : decode cX9_violations 129 = .ok (.iconst 1, 1) := by decide +kernel
theorem dX9_violations_130 : decode cX9_violations 130 = .ok (.iadd, 1) := by decide +kernel
theorem dX9_violations_131 : decode cX9_violations 131 = .ok (.istore_n 2, 1) := by decide +kernel
theorem dX9_violations_132 : decode cX9_violations 132 = .ok (.iinc 3 1, 3) := by decide +kernel
theorem dX9_violations_135 : decode cX9_violations 135 = .ok (.goto (-53), 3) := by decide +kernel
theorem dX9_violations_138 : decode cX9_violations 138 = .ok (.iload_n 2, 1) := by decide +kernel
theorem dX9_violations_139 : decode cX9_violations 139 = .ok (.ireturn, 1) := by decide +kernel
theorem dX9_write_0 : decode cX9_write 0 = .ok (.aload_n 0, 1) := by decide +kernel
theorem dX9_write_1 : decode cX9_write 1 = .ok (.getfield 38, 3) := by decide +kernel
theorem dX9_write_4 : decode cX9_write 4 = .ok (.aload_n 0, 1) := by decide +kernel
theorem dX9_write_5 : decode cX9_write 5 = .ok (.getfield 410, 3) := by decide +kernel
theorem dX9_write_8 : decode cX9_write 8 = .ok (.iload_n 1, 1) := by decide +kernel
theorem dX9_write_9 : decode cX9_write 9 = .ok (.i2c, 1) := by decide +kernel
theorem dX9_write_10 : decode cX9_write 10 = .ok (.castore, 1) := by decide +kernel
theorem dX9_write_11 : decode cX9_write 11 = .ok (.aload_n 0, 1) := by decide +kernel
theorem dX9_write_12 : decode cX9_write 12 = .ok (.dup, 1) := by decide +kernel
theorem dX9_write_13 : decode cX9_write 13 = .ok (.getfield 410, 3) := by decide +kernel
theorem dX9_write_16 : decode cX9_write 16 = .ok (.iconst 1, 1) := by decide +kernel
theorem dX9_write_17 : decode cX9_write 17 = .ok (.iadd, 1) := by decide +kernel
theorem dX9_write_18 : decode cX9_write 18 = .ok (.putfield 410, 3) := by decide +kernel
theorem dX9_write_21 : decode cX9_write 21 = .ok (.return_, 1) := by decide +kernel
theorem dX9_writeCat_0 : decode cX9_writeCat 0 = .ok (.iload_n 2, 1) := by decide +kernel
theorem dX9_writeCat_1 : decode cX9_writeCat 1 = .ok (.iconst (-1), 1) := by decide +kernel
theorem dX9_writeCat_2 : decode cX9_writeCat 2 = .ok (.if_icmp .eq 16, 3) := by decide +kernel
theorem dX9_writeCat_5 : decode cX9_writeCat 5 = .ok (.aload_n 0, 1) := by decide +kernel
theorem dX9_writeCat_6 : decode cX9_writeCat 6 = .ok (.iload_n 1, 1) := by decide +kernel
theorem dX9_writeCat_7 : decode cX9_writeCat 7 = .ok (.invokevirtual 413, 3) := by decide +kernel
theorem dX9_writeCat_10 : decode cX9_writeCat 10 = .ok (.aload_n 0, 1) := by decide +kernel
theorem dX9_writeCat_11 : decode cX9_writeCat 11 = .ok (.bipush 48, 2) := by decide +kernel
theorem dX9_writeCat_13 : decode cX9_writeCat 13 = .ok (.iload_n 2, 1) := by decide +kernel
theorem dX9_writeCat_14 : decode cX9_writeCat 14 = .ok (.iadd, 1) := by decide +kernel
theorem dX9_writeCat_15 : decode cX9_writeCat 15 = .ok (.invokevirtual 413, 3) := by decide +kernel
theorem dX9_writeCat_18 : decode cX9_writeCat 18 = .ok (.return_, 1) := by decide +kernel
theorem dX9_writeRoof_0 : decode cX9_writeRoof 0 = .ok (.aload_n 0, 1) := by decide +kernel
theorem dX9_writeRoof_1 : decode cX9_writeRoof 1 = .ok (.iconst 0, 1) := by decide +kernel
theorem dX9_writeRoof_2 : decode cX9_writeRoof 2 = .ok (.putfield 57, 3) := by decide +kernel
theorem dX9_writeRoof_5 : decode cX9_writeRoof 5 = .ok (.aload_n 0, 1) := by decide +kernel
theorem dX9_writeRoof_6 : decode cX9_writeRoof 6 = .ok (.iconst 0, 1) := by decide +kernel
theorem dX9_writeRoof_7 : decode cX9_writeRoof 7 = .ok (.putfield 410, 3) := by decide +kernel
theorem dX9_writeRoof_10 : decode cX9_writeRoof 10 = .ok (.iconst 0, 1) := by decide +kernel
theorem dX9_writeRoof_11 : decode cX9_writeRoof 11 = .ok (.istore_n 1, 1) := by decide +kernel
theorem dX9_writeRoof_12 : decode cX9_writeRoof 12 = .ok (.iload_n 1, 1) := by decide +kernel
theorem dX9_writeRoof_13 : decode cX9_writeRoof 13 = .ok (.aload_n 0, 1) := by decide +kernel
theorem dX9_writeRoof_14 : decode cX9_writeRoof 14 = .ok (.getfield 7, 3) := by decide +kernel
theorem dX9_writeRoof_17 : decode cX9_writeRoof 17 = .ok (.iconst 0, 1) := by decide +kernel
theorem dX9_writeRoof_18 : decode cX9_writeRoof 18 = .ok (.iaload, 1) := by decide +kernel
theorem dX9_writeRoof_19 : decode cX9_writeRoof 19 = .ok (.if_icmp .ge 57, 3) := by decide +kernel
theorem dX9_writeRoof_22 : decode cX9_writeRoof 22 = .ok (.iload_n 1, 1) := by decide +kernel
theorem dX9_writeRoof_23 : decode cX9_writeRoof 23 = .ok (.ifCond .le 9, 3) := by decide +kernel
theorem dX9_writeRoof_26 : decode cX9_writeRoof 26 = .ok (.aload_n 0, 1) := by decide +kernel
theorem dX9_writeRoof_27 : decode cX9_writeRoof 27 = .ok (.bipush 32, 2) := by decide +kernel
theorem dX9_writeRoof_29 : decode cX9_writeRoof 29 = .ok (.invokevirtual 413, 3) := by decide +kernel
theorem dX9_writeRoof_32 : decode cX9_writeRoof 32 = .ok (.aload_n 0, 1) := by decide +kernel
theorem dX9_writeRoof_33 : decode cX9_writeRoof 33 = .ok (.bipush 48, 2) := by decide +kernel
theorem dX9_writeRoof_35 : decode cX9_writeRoof 35 = .ok (.aload_n 0, 1) := by decide +kernel
theorem dX9_writeRoof_36 : decode cX9_writeRoof 36 = .ok (.getfield 7, 3) := by decide +kernel
theorem dX9_writeRoof_39 : decode cX9_writeRoof 39 = .ok (.bipush 10, 2) := by decide +kernel
theorem dX9_writeRoof_41 : decode cX9_writeRoof 41 = .ok (.iload_n 1, 1) := by decide +kernel
theorem dX9_writeRoof_42 : decode cX9_writeRoof 42 = .ok (.iadd, 1) := by decide +kernel
theorem dX9_writeRoof_43 : decode cX9_writeRoof 43 = .ok (.iaload, 1) := by decide +kernel
theorem dX9_writeRoof_44 : decode cX9_writeRoof 44 = .ok (.iadd, 1) := by decide +kernel
theorem dX9_writeRoof_45 : decode cX9_writeRoof 45 = .ok (.invokevirtual 413, 3) := by decide +kernel
theorem dX9_writeRoof_48 : decode cX9_writeRoof 48 = .ok (.aload_n 0, 1) := by decide +kernel
theorem dX9_writeRoof_49 : decode cX9_writeRoof 49 = .ok (.bipush 99, 2) := by decide +kernel
theorem dX9_writeRoof_51 : decode cX9_writeRoof 51 = .ok (.aload_n 0, 1) := by decide +kernel
theorem dX9_writeRoof_52 : decode cX9_writeRoof 52 = .ok (.iload_n 1, 1) := by decide +kernel
theorem dX9_writeRoof_53 : decode cX9_writeRoof 53 = .ok (.invokevirtual 87, 3) := by decide +kernel
theorem dX9_writeRoof_56 : decode cX9_writeRoof 56 = .ok (.invokevirtual 416, 3) := by decide +kernel
theorem dX9_writeRoof_59 : decode cX9_writeRoof 59 = .ok (.aload_n 0, 1) := by decide +kernel
theorem dX9_writeRoof_60 : decode cX9_writeRoof 60 = .ok (.bipush 111, 2) := by decide +kernel
theorem dX9_writeRoof_62 : decode cX9_writeRoof 62 = .ok (.aload_n 0, 1) := by decide +kernel
theorem dX9_writeRoof_63 : decode cX9_writeRoof 63 = .ok (.iload_n 1, 1) := by decide +kernel
theorem dX9_writeRoof_64 : decode cX9_writeRoof 64 = .ok (.invokevirtual 68, 3) := by decide +kernel
theorem dX9_writeRoof_67 : decode cX9_writeRoof 67 = .ok (.invokevirtual 416, 3) := by decide +kernel
theorem dX9_writeRoof_70 : decode cX9_writeRoof 70 = .ok (.iinc 1 1, 3) := by decide +kernel
theorem dX9_writeRoof_73 : decode cX9_writeRoof 73 = .ok (.goto (-61), 3) := by decide +kernel
theorem dX9_writeRoof_76 : decode cX9_writeRoof 76 = .ok (.aload_n 0, 1) := by decide +kernel
theorem dX9_writeRoof_77 : decode cX9_writeRoof 77 = .ok (.getfield 410, 3) := by decide +kernel
theorem dX9_writeRoof_80 : decode cX9_writeRoof 80 = .ok (.ireturn, 1) := by decide +kernel
theorem dX9_reportByte_0 : decode cX9_reportByte 0 = .ok (.aload_n 0, 1) := by decide +kernel
theorem dX9_reportByte_1 : decode cX9_reportByte 1 = .ok (.iconst 0, 1) := by decide +kernel
theorem dX9_reportByte_2 : decode cX9_reportByte 2 = .ok (.putfield 57, 3) := by decide +kernel
theorem dX9_reportByte_5 : decode cX9_reportByte 5 = .ok (.iload_n 1, 1) := by decide +kernel
theorem dX9_reportByte_6 : decode cX9_reportByte 6 = .ok (.iconst 0, 1) := by decide +kernel
theorem dX9_reportByte_7 : decode cX9_reportByte 7 = .ok (.aload_n 0, 1) := by decide +kernel
theorem dX9_reportByte_8 : decode cX9_reportByte 8 = .ok (.getfield 410, 3) := by decide +kernel
theorem dX9_reportByte_11 : decode cX9_reportByte 11 = .ok (.iconst 1, 1) := by decide +kernel
theorem dX9_reportByte_12 : decode cX9_reportByte 12 = .ok (.isub, 1) := by decide +kernel
theorem dX9_reportByte_13 : decode cX9_reportByte 13 = .ok (.invokestatic 60, 3) := by decide +kernel
theorem dX9_reportByte_16 : decode cX9_reportByte 16 = .ok (.ifCond .eq 12, 3) := by decide +kernel
theorem dX9_reportByte_19 : decode cX9_reportByte 19 = .ok (.aload_n 0, 1) := by decide +kernel
theorem dX9_reportByte_20 : decode cX9_reportByte 20 = .ok (.getfield 38, 3) := by decide +kernel
theorem dX9_reportByte_23 : decode cX9_reportByte 23 = .ok (.iload_n 1, 1) := by decide +kernel
theorem dX9_reportByte_24 : decode cX9_reportByte 24 = .ok (.caload, 1) := by decide +kernel
theorem dX9_reportByte_25 : decode cX9_reportByte 25 = .ok (.goto 4, 3) := by decide +kernel
theorem dX9_reportByte_28 : decode cX9_reportByte 28 = .ok (.iconst (-1), 1) := by decide +kernel
theorem dX9_reportByte_29 : decode cX9_reportByte 29 = .ok (.ireturn, 1) := by decide +kernel
theorem dJx29ce0_ordinal_8abf5_0 : decode cJx29ce0_ordinal_8abf5 0 = .ok (.aload_n 0, 1) := by decide +kernel
theorem dJx29ce0_ordinal_8abf5_1 : decode cJx29ce0_ordinal_8abf5 1 = .ok (.getfield 7, 3) := by decide +kernel
theorem dJx29ce0_ordinal_8abf5_4 : decode cJx29ce0_ordinal_8abf5 4 = .ok (.ireturn, 1) := by decide +kernel
theorem dJ6_bitCount_0f7a4_0 : decode cJ6_bitCount_0f7a4 0 = .ok (.iload_n 0, 1) := by decide +kernel
theorem dJ6_bitCount_0f7a4_1 : decode cJ6_bitCount_0f7a4 1 = .ok (.iload_n 0, 1) := by decide +kernel
theorem dJ6_bitCount_0f7a4_2 : decode cJ6_bitCount_0f7a4 2 = .ok (.iconst 1, 1) := by decide +kernel
theorem dJ6_bitCount_0f7a4_3 : decode cJ6_bitCount_0f7a4 3 = .ok (.iushr, 1) := by decide +kernel
theorem dJ6_bitCount_0f7a4_4 : decode cJ6_bitCount_0f7a4 4 = .ok (.ldc_w 265, 3) := by decide +kernel
theorem dJ6_bitCount_0f7a4_7 : decode cJ6_bitCount_0f7a4 7 = .ok (.iand, 1) := by decide +kernel
theorem dJ6_bitCount_0f7a4_8 : decode cJ6_bitCount_0f7a4 8 = .ok (.isub, 1) := by decide +kernel
theorem dJ6_bitCount_0f7a4_9 : decode cJ6_bitCount_0f7a4 9 = .ok (.istore_n 0, 1) := by decide +kernel
theorem dJ6_bitCount_0f7a4_10 : decode cJ6_bitCount_0f7a4 10 = .ok (.iload_n 0, 1) := by decide +kernel
theorem dJ6_bitCount_0f7a4_11 : decode cJ6_bitCount_0f7a4 11 = .ok (.ldc_w 266, 3) := by decide +kernel
theorem dJ6_bitCount_0f7a4_14 : decode cJ6_bitCount_0f7a4 14 = .ok (.iand, 1) := by decide +kernel
theorem dJ6_bitCount_0f7a4_15 : decode cJ6_bitCount_0f7a4 15 = .ok (.iload_n 0, 1) := by decide +kernel
theorem dJ6_bitCount_0f7a4_16 : decode cJ6_bitCount_0f7a4 16 = .ok (.iconst 2, 1) := by decide +kernel
theorem dJ6_bitCount_0f7a4_17 : decode cJ6_bitCount_0f7a4 17 = .ok (.iushr, 1) := by decide +kernel
theorem dJ6_bitCount_0f7a4_18 : decode cJ6_bitCount_0f7a4 18 = .ok (.ldc_w 266, 3) := by decide +kernel
theorem dJ6_bitCount_0f7a4_21 : decode cJ6_bitCount_0f7a4 21 = .ok (.iand, 1) := by decide +kernel
theorem dJ6_bitCount_0f7a4_22 : decode cJ6_bitCount_0f7a4 22 = .ok (.iadd, 1) := by decide +kernel
theorem dJ6_bitCount_0f7a4_23 : decode cJ6_bitCount_0f7a4 23 = .ok (.istore_n 0, 1) := by decide +kernel
theorem dJ6_bitCount_0f7a4_24 : decode cJ6_bitCount_0f7a4 24 = .ok (.iload_n 0, 1) := by decide +kernel
theorem dJ6_bitCount_0f7a4_25 : decode cJ6_bitCount_0f7a4 25 = .ok (.iload_n 0, 1) := by decide +kernel
theorem dJ6_bitCount_0f7a4_26 : decode cJ6_bitCount_0f7a4 26 = .ok (.iconst 4, 1) := by decide +kernel
theorem dJ6_bitCount_0f7a4_27 : decode cJ6_bitCount_0f7a4 27 = .ok (.iushr, 1) := by decide +kernel
theorem dJ6_bitCount_0f7a4_28 : decode cJ6_bitCount_0f7a4 28 = .ok (.iadd, 1) := by decide +kernel
theorem dJ6_bitCount_0f7a4_29 : decode cJ6_bitCount_0f7a4 29 = .ok (.ldc_w 267, 3) := by decide +kernel
theorem dJ6_bitCount_0f7a4_32 : decode cJ6_bitCount_0f7a4 32 = .ok (.iand, 1) := by decide +kernel
theorem dJ6_bitCount_0f7a4_33 : decode cJ6_bitCount_0f7a4 33 = .ok (.istore_n 0, 1) := by decide +kernel
theorem dJ6_bitCount_0f7a4_34 : decode cJ6_bitCount_0f7a4 34 = .ok (.iload_n 0, 1) := by decide +kernel
theorem dJ6_bitCount_0f7a4_35 : decode cJ6_bitCount_0f7a4 35 = .ok (.iload_n 0, 1) := by decide +kernel
theorem dJ6_bitCount_0f7a4_36 : decode cJ6_bitCount_0f7a4 36 = .ok (.bipush 8, 2) := by decide +kernel
theorem dJ6_bitCount_0f7a4_38 : decode cJ6_bitCount_0f7a4 38 = .ok (.iushr, 1) := by decide +kernel
theorem dJ6_bitCount_0f7a4_39 : decode cJ6_bitCount_0f7a4 39 = .ok (.iadd, 1) := by decide +kernel
theorem dJ6_bitCount_0f7a4_40 : decode cJ6_bitCount_0f7a4 40 = .ok (.istore_n 0, 1) := by decide +kernel
theorem dJ6_bitCount_0f7a4_41 : decode cJ6_bitCount_0f7a4 41 = .ok (.iload_n 0, 1) := by decide +kernel
theorem dJ6_bitCount_0f7a4_42 : decode cJ6_bitCount_0f7a4 42 = .ok (.iload_n 0, 1) := by decide +kernel
theorem dJ6_bitCount_0f7a4_43 : decode cJ6_bitCount_0f7a4 43 = .ok (.bipush 16, 2) := by decide +kernel
theorem dJ6_bitCount_0f7a4_45 : decode cJ6_bitCount_0f7a4 45 = .ok (.iushr, 1) := by decide +kernel
theorem dJ6_bitCount_0f7a4_46 : decode cJ6_bitCount_0f7a4 46 = .ok (.iadd, 1) := by decide +kernel
theorem dJ6_bitCount_0f7a4_47 : decode cJ6_bitCount_0f7a4 47 = .ok (.istore_n 0, 1) := by decide +kernel
theorem dJ6_bitCount_0f7a4_48 : decode cJ6_bitCount_0f7a4 48 = .ok (.iload_n 0, 1) := by decide +kernel
theorem dJ6_bitCount_0f7a4_49 : decode cJ6_bitCount_0f7a4 49 = .ok (.bipush 63, 2) := by decide +kernel
theorem dJ6_bitCount_0f7a4_51 : decode cJ6_bitCount_0f7a4 51 = .ok (.iand, 1) := by decide +kernel
theorem dJ6_bitCount_0f7a4_52 : decode cJ6_bitCount_0f7a4 52 = .ok (.ireturn, 1) := by decide +kernel
theorem dJ9_abs_0f7a4_0 : decode cJ9_abs_0f7a4 0 = .ok (.iload_n 0, 1) := by decide +kernel
theorem dJ9_abs_0f7a4_1 : decode cJ9_abs_0f7a4 1 = .ok (.ifCond .ge 8, 3) := by decide +kernel
theorem dJ9_abs_0f7a4_4 : decode cJ9_abs_0f7a4 4 = .ok (.iload_n 0, 1) := by decide +kernel
theorem dJ9_abs_0f7a4_5 : decode cJ9_abs_0f7a4 5 = .ok (.ineg, 1) := by decide +kernel
theorem dJ9_abs_0f7a4_6 : decode cJ9_abs_0f7a4 6 = .ok (.goto 4, 3) := by decide +kernel
theorem dJ9_abs_0f7a4_9 : decode cJ9_abs_0f7a4 9 = .ok (.iload_n 0, 1) := by decide +kernel
theorem dJ9_abs_0f7a4_10 : decode cJ9_abs_0f7a4 10 = .ok (.ireturn, 1) := by decide +kernel
theorem dJ9_max_7cf53_0 : decode cJ9_max_7cf53 0 = .ok (.iload_n 0, 1) := by decide +kernel
theorem dJ9_max_7cf53_1 : decode cJ9_max_7cf53 1 = .ok (.iload_n 1, 1) := by decide +kernel
theorem dJ9_max_7cf53_2 : decode cJ9_max_7cf53 2 = .ok (.if_icmp .lt 7, 3) := by decide +kernel
theorem dJ9_max_7cf53_5 : decode cJ9_max_7cf53 5 = .ok (.iload_n 0, 1) := by decide +kernel
theorem dJ9_max_7cf53_6 : decode cJ9_max_7cf53 6 = .ok (.goto 4, 3) := by decide +kernel
theorem dJ9_max_7cf53_9 : decode cJ9_max_7cf53 9 = .ok (.iload_n 1, 1) := by decide +kernel
theorem dJ9_max_7cf53_10 : decode cJ9_max_7cf53 10 = .ok (.ireturn, 1) := by decide +kernel
theorem dJ9_min_7cf53_0 : decode cJ9_min_7cf53 0 = .ok (.iload_n 0, 1) := by decide +kernel
theorem dJ9_min_7cf53_1 : decode cJ9_min_7cf53 1 = .ok (.iload_n 1, 1) := by decide +kernel
theorem dJ9_min_7cf53_2 : decode cJ9_min_7cf53 2 = .ok (.if_icmp .gt 7, 3) := by decide +kernel
theorem dJ9_min_7cf53_5 : decode cJ9_min_7cf53 5 = .ok (.iload_n 0, 1) := by decide +kernel
theorem dJ9_min_7cf53_6 : decode cJ9_min_7cf53 6 = .ok (.goto 4, 3) := by decide +kernel
theorem dJ9_min_7cf53_9 : decode cJ9_min_7cf53 9 = .ok (.iload_n 1, 1) := by decide +kernel
theorem dJ9_min_7cf53_10 : decode cJ9_min_7cf53 10 = .ok (.ireturn, 1) := by decide +kernel
theorem dJ0_length_8abf5_0 : decode cJ0_length_8abf5 0 = .ok (.aload_n 0, 1) := by decide +kernel
theorem dJ0_length_8abf5_1 : decode cJ0_length_8abf5 1 = .ok (.getfield 9, 3) := by decide +kernel
theorem dJ0_length_8abf5_4 : decode cJ0_length_8abf5 4 = .ok (.arraylength, 1) := by decide +kernel
theorem dJ0_length_8abf5_5 : decode cJ0_length_8abf5 5 = .ok (.aload_n 0, 1) := by decide +kernel
theorem dJ0_length_8abf5_6 : decode cJ0_length_8abf5 6 = .ok (.invokevirtual 335, 3) := by decide +kernel
theorem dJ0_length_8abf5_9 : decode cJ0_length_8abf5 9 = .ok (.ishr, 1) := by decide +kernel
theorem dJ0_length_8abf5_10 : decode cJ0_length_8abf5 10 = .ok (.ireturn, 1) := by decide +kernel
theorem dJ0_charAt_5068e_0 : decode cJ0_charAt_5068e 0 = .ok (.aload_n 0, 1) := by decide +kernel
theorem dJ0_charAt_5068e_1 : decode cJ0_charAt_5068e 1 = .ok (.invokevirtual 492, 3) := by decide +kernel
theorem dJ0_charAt_5068e_4 : decode cJ0_charAt_5068e 4 = .ok (.ifCond .eq 12, 3) := by decide +kernel
theorem dJ0_charAt_5068e_7 : decode cJ0_charAt_5068e 7 = .ok (.aload_n 0, 1) := by decide +kernel
theorem dJ0_charAt_5068e_8 : decode cJ0_charAt_5068e 8 = .ok (.getfield 9, 3) := by decide +kernel
theorem dJ0_charAt_5068e_11 : decode cJ0_charAt_5068e 11 = .ok (.iload_n 1, 1) := by decide +kernel
theorem dJ0_charAt_5068e_12 : decode cJ0_charAt_5068e 12 = .ok (.invokestatic 495, 3) := by decide +kernel
theorem dJ0_charAt_5068e_15 : decode cJ0_charAt_5068e 15 = .ok (.ireturn, 1) := by decide +kernel
theorem dJ0_charAt_5068e_16 : decode cJ0_charAt_5068e 16 = .ok (.aload_n 0, 1) := by decide +kernel
theorem dJ0_charAt_5068e_17 : decode cJ0_charAt_5068e 17 = .ok (.getfield 9, 3) := by decide +kernel
theorem dJ0_charAt_5068e_20 : decode cJ0_charAt_5068e 20 = .ok (.iload_n 1, 1) := by decide +kernel
theorem dJ0_charAt_5068e_21 : decode cJ0_charAt_5068e 21 = .ok (.invokestatic 498, 3) := by decide +kernel
theorem dJ0_charAt_5068e_24 : decode cJ0_charAt_5068e 24 = .ok (.ireturn, 1) := by decide +kernel
theorem dJ0_coder_7d493_0 : decode cJ0_coder_7d493 0 = .ok (.getstatic 38, 3) := by decide +kernel
theorem dJ0_coder_7d493_3 : decode cJ0_coder_7d493 3 = .ok (.ifCond .eq 10, 3) := by decide +kernel
theorem dJ0_coder_7d493_6 : decode cJ0_coder_7d493 6 = .ok (.aload_n 0, 1) := by decide +kernel
theorem dJ0_coder_7d493_7 : decode cJ0_coder_7d493 7 = .ok (.getfield 15, 3) := by decide +kernel
theorem dJ0_coder_7d493_10 : decode cJ0_coder_7d493 10 = .ok (.goto 4, 3) := by decide +kernel
theorem dJ0_coder_7d493_13 : decode cJ0_coder_7d493 13 = .ok (.iconst 1, 1) := by decide +kernel
theorem dJ0_coder_7d493_14 : decode cJ0_coder_7d493 14 = .ok (.ireturn, 1) := by decide +kernel
theorem dJ0_isLatin1_aae02_0 : decode cJ0_isLatin1_aae02 0 = .ok (.getstatic 38, 3) := by decide +kernel
theorem dJ0_isLatin1_aae02_3 : decode cJ0_isLatin1_aae02 3 = .ok (.ifCond .eq 14, 3) := by decide +kernel
theorem dJ0_isLatin1_aae02_6 : decode cJ0_isLatin1_aae02 6 = .ok (.aload_n 0, 1) := by decide +kernel
theorem dJ0_isLatin1_aae02_7 : decode cJ0_isLatin1_aae02 7 = .ok (.getfield 15, 3) := by decide +kernel
theorem dJ0_isLatin1_aae02_10 : decode cJ0_isLatin1_aae02 10 = .ok (.ifCond .ne 7, 3) := by decide +kernel
theorem dJ0_isLatin1_aae02_13 : decode cJ0_isLatin1_aae02 13 = .ok (.iconst 1, 1) := by decide +kernel
theorem dJ0_isLatin1_aae02_14 : decode cJ0_isLatin1_aae02 14 = .ok (.goto 4, 3) := by decide +kernel
theorem dJ0_isLatin1_aae02_17 : decode cJ0_isLatin1_aae02 17 = .ok (.iconst 0, 1) := by decide +kernel
theorem dJ0_isLatin1_aae02_18 : decode cJ0_isLatin1_aae02 18 = .ok (.ireturn, 1) := by decide +kernel
theorem dJ0_checkIndex_df160_0 : decode cJ0_checkIndex_df160 0 = .ok (.iload_n 0, 1) := by decide +kernel
theorem dJ0_checkIndex_df160_1 : decode cJ0_checkIndex_df160 1 = .ok (.iload_n 1, 1) := by decide +kernel
theorem dJ0_checkIndex_df160_2 : decode cJ0_checkIndex_df160 2 = .ok (.getstatic 1053, 3) := by decide +kernel
theorem dJ0_checkIndex_df160_5 : decode cJ0_checkIndex_df160 5 = .ok (.invokestatic 1059, 3) := by decide +kernel
theorem dJ0_checkIndex_df160_8 : decode cJ0_checkIndex_df160 8 = .ok (.pop, 1) := by decide +kernel
theorem dJ0_checkIndex_df160_9 : decode cJ0_checkIndex_df160 9 = .ok (.return_, 1) := by decide +kernel
theorem dJ1_charAt_3b067_0 : decode cJ1_charAt_3b067 0 = .ok (.iload_n 1, 1) := by decide +kernel
theorem dJ1_charAt_3b067_1 : decode cJ1_charAt_3b067 1 = .ok (.aload_n 0, 1) := by decide +kernel
theorem dJ1_charAt_3b067_2 : decode cJ1_charAt_3b067 2 = .ok (.arraylength, 1) := by decide +kernel
theorem dJ1_charAt_3b067_3 : decode cJ1_charAt_3b067 3 = .ok (.invokestatic 9, 3) := by decide +kernel
theorem dJ1_charAt_3b067_6 : decode cJ1_charAt_3b067 6 = .ok (.aload_n 0, 1) := by decide +kernel
theorem dJ1_charAt_3b067_7 : decode cJ1_charAt_3b067 7 = .ok (.iload_n 1, 1) := by decide +kernel
theorem dJ1_charAt_3b067_8 : decode cJ1_charAt_3b067 8 = .ok (.baload, 1) := by decide +kernel
theorem dJ1_charAt_3b067_9 : decode cJ1_charAt_3b067 9 = .ok (.sipush 255, 3) := by decide +kernel
theorem dJ1_charAt_3b067_12 : decode cJ1_charAt_3b067 12 = .ok (.iand, 1) := by decide +kernel
theorem dJ1_charAt_3b067_13 : decode cJ1_charAt_3b067 13 = .ok (.i2c, 1) := by decide +kernel
theorem dJ1_charAt_3b067_14 : decode cJ1_charAt_3b067 14 = .ok (.ireturn, 1) := by decide +kernel
theorem dJ2_getChar_3b067_0 : decode cJ2_getChar_3b067 0 = .ok (.getstatic 44, 3) := by decide +kernel
theorem dJ2_getChar_3b067_3 : decode cJ2_getChar_3b067 3 = .ok (.ifCond .ne 25, 3) := by decide +kernel
theorem dJ2_getChar_3b067_6 : decode cJ2_getChar_3b067 6 = .ok (.iload_n 1, 1) := by decide +kernel
theorem dJ2_getChar_3b067_7 : decode cJ2_getChar_3b067 7 = .ok (.ifCond .lt 11, 3) := by decide +kernel
theorem dJ2_getChar_3b067_10 : decode cJ2_getChar_3b067 10 = .ok (.iload_n 1, 1) := by decide +kernel
theorem dJ2_getChar_3b067_11 : decode cJ2_getChar_3b067 11 = .ok (.aload_n 0, 1) := by decide +kernel
theorem dJ2_getChar_3b067_12 : decode cJ2_getChar_3b067 12 = .ok (.invokestatic 48, 3) := by decide +kernel
theorem dJ2_getChar_3b067_15 : decode cJ2_getChar_3b067 15 = .ok (.if_icmp .lt 13, 3) := by decide +kernel
theorem dJ2_getChar_3b067_18 : decode cJ2_getChar_3b067 18 = .ok (.new 52, 3) := by decide +kernel
theorem dJ2_getChar_3b067_21 : decode cJ2_getChar_3b067 21 = .ok (.dup, 1) := by decide +kernel
theorem dJ2_getChar_3b067_22 : decode cJ2_getChar_3b067 22 = .ok (.ldc 54, 2) := by decide +kernel
theorem dJ2_getChar_3b067_24 : decode cJ2_getChar_3b067 24 = .ok (.invokespecial 56, 3) := by decide +kernel
theorem dJ2_getChar_3b067_27 : decode cJ2_getChar_3b067 27 = .ok (.athrow, 1) := by decide +kernel
theorem dJ2_getChar_3b067_28 : decode cJ2_getChar_3b067 28 = .ok (.iload_n 1, 1) := by decide +kernel
theorem dJ2_getChar_3b067_29 : decode cJ2_getChar_3b067 29 = .ok (.iconst 1, 1) := by decide +kernel
theorem dJ2_getChar_3b067_30 : decode cJ2_getChar_3b067 30 = .ok (.ishl, 1) := by decide +kernel
theorem dJ2_getChar_3b067_31 : decode cJ2_getChar_3b067 31 = .ok (.istore_n 1, 1) := by decide +kernel
theorem dJ2_getChar_3b067_32 : decode cJ2_getChar_3b067 32 = .ok (.aload_n 0, 1) := by decide +kernel
theorem dJ2_getChar_3b067_33 : decode cJ2_getChar_3b067 33 = .ok (.iload_n 1, 1) := by decide +kernel
theorem dJ2_getChar_3b067_34 : decode cJ2_getChar_3b067 34 = .ok (.iinc 1 1, 3) := by decide +kernel
theorem dJ2_getChar_3b067_37 : decode cJ2_getChar_3b067 37 = .ok (.baload, 1) := by decide +kernel
theorem dJ2_getChar_3b067_38 : decode cJ2_getChar_3b067 38 = .ok (.sipush 255, 3) := by decide +kernel
theorem dJ2_getChar_3b067_41 : decode cJ2_getChar_3b067 41 = .ok (.iand, 1) := by decide +kernel
theorem dJ2_getChar_3b067_42 : decode cJ2_getChar_3b067 42 = .ok (.getstatic 59, 3) := by decide +kernel
theorem dJ2_getChar_3b067_45 : decode cJ2_getChar_3b067 45 = .ok (.ishl, 1) := by decide +kernel
theorem dJ2_getChar_3b067_46 : decode cJ2_getChar_3b067 46 = .ok (.aload_n 0, 1) := by decide +kernel
theorem dJ2_getChar_3b067_47 : decode cJ2_getChar_3b067 47 = .ok (.iload_n 1, 1) := by decide +kernel
theorem dJ2_getChar_3b067_48 : decode cJ2_getChar_3b067 48 = .ok (.baload, 1) := by decide +kernel
theorem dJ2_getChar_3b067_49 : decode cJ2_getChar_3b067 49 = .ok (.sipush 255, 3) := by decide +kernel
theorem dJ2_getChar_3b067_52 : decode cJ2_getChar_3b067 52 = .ok (.iand, 1) := by decide +kernel
theorem dJ2_getChar_3b067_53 : decode cJ2_getChar_3b067 53 = .ok (.getstatic 63, 3) := by decide +kernel
theorem dJ2_getChar_3b067_56 : decode cJ2_getChar_3b067 56 = .ok (.ishl, 1) := by decide +kernel
theorem dJ2_getChar_3b067_57 : decode cJ2_getChar_3b067 57 = .ok (.ior, 1) := by decide +kernel
theorem dJ2_getChar_3b067_58 : decode cJ2_getChar_3b067 58 = .ok (.i2c, 1) := by decide +kernel
theorem dJ2_getChar_3b067_59 : decode cJ2_getChar_3b067 59 = .ok (.ireturn, 1) := by decide +kernel
theorem dJ2_length_9d52b_0 : decode cJ2_length_9d52b 0 = .ok (.aload_n 0, 1) := by decide +kernel
theorem dJ2_length_9d52b_1 : decode cJ2_length_9d52b 1 = .ok (.arraylength, 1) := by decide +kernel
theorem dJ2_length_9d52b_2 : decode cJ2_length_9d52b 2 = .ok (.iconst 1, 1) := by decide +kernel
theorem dJ2_length_9d52b_3 : decode cJ2_length_9d52b 3 = .ok (.ishr, 1) := by decide +kernel
theorem dJ2_length_9d52b_4 : decode cJ2_length_9d52b 4 = .ok (.ireturn, 1) := by decide +kernel
theorem dJ2_charAt_3b067_0 : decode cJ2_charAt_3b067 0 = .ok (.iload_n 1, 1) := by decide +kernel
theorem dJ2_charAt_3b067_1 : decode cJ2_charAt_3b067 1 = .ok (.aload_n 0, 1) := by decide +kernel
theorem dJ2_charAt_3b067_2 : decode cJ2_charAt_3b067 2 = .ok (.invokestatic 67, 3) := by decide +kernel
theorem dJ2_charAt_3b067_5 : decode cJ2_charAt_3b067 5 = .ok (.aload_n 0, 1) := by decide +kernel
theorem dJ2_charAt_3b067_6 : decode cJ2_charAt_3b067 6 = .ok (.iload_n 1, 1) := by decide +kernel
theorem dJ2_charAt_3b067_7 : decode cJ2_charAt_3b067 7 = .ok (.invokestatic 71, 3) := by decide +kernel
theorem dJ2_charAt_3b067_10 : decode cJ2_charAt_3b067 10 = .ok (.ireturn, 1) := by decide +kernel
theorem dJ2_checkIndex_2214a_0 : decode cJ2_checkIndex_2214a 0 = .ok (.iload_n 0, 1) := by decide +kernel
theorem dJ2_checkIndex_2214a_1 : decode cJ2_checkIndex_2214a 1 = .ok (.aload_n 1, 1) := by decide +kernel
theorem dJ2_checkIndex_2214a_2 : decode cJ2_checkIndex_2214a 2 = .ok (.invokestatic 48, 3) := by decide +kernel
theorem dJ2_checkIndex_2214a_5 : decode cJ2_checkIndex_2214a 5 = .ok (.invokestatic 414, 3) := by decide +kernel
theorem dJ2_checkIndex_2214a_8 : decode cJ2_checkIndex_2214a 8 = .ok (.return_, 1) := by decide +kernel
theorem dJ7_fill_53178_0 : decode cJ7_fill_53178 0 = .ok (.iconst 0, 1) := by decide +kernel
theorem dJ7_fill_53178_1 : decode cJ7_fill_53178 1 = .ok (.istore_n 2, 1) := by decide +kernel
theorem dJ7_fill_53178_2 : decode cJ7_fill_53178 2 = .ok (.aload_n 0, 1) := by decide +kernel
theorem dJ7_fill_53178_3 : decode cJ7_fill_53178 3 = .ok (.arraylength, 1) := by decide +kernel
theorem dJ7_fill_53178_4 : decode cJ7_fill_53178 4 = .ok (.istore_n 3, 1) := by decide +kernel
theorem dJ7_fill_53178_5 : decode cJ7_fill_53178 5 = .ok (.iload_n 2, 1) := by decide +kernel
theorem dJ7_fill_53178_6 : decode cJ7_fill_53178 6 = .ok (.iload_n 3, 1) := by decide +kernel
theorem dJ7_fill_53178_7 : decode cJ7_fill_53178 7 = .ok (.if_icmp .ge 13, 3) := by decide +kernel
theorem dJ7_fill_53178_10 : decode cJ7_fill_53178 10 = .ok (.aload_n 0, 1) := by decide +kernel
theorem dJ7_fill_53178_11 : decode cJ7_fill_53178 11 = .ok (.iload_n 2, 1) := by decide +kernel
theorem dJ7_fill_53178_12 : decode cJ7_fill_53178 12 = .ok (.iload_n 1, 1) := by decide +kernel
theorem dJ7_fill_53178_13 : decode cJ7_fill_53178 13 = .ok (.iastore, 1) := by decide +kernel
theorem dJ7_fill_53178_14 : decode cJ7_fill_53178 14 = .ok (.iinc 2 1, 3) := by decide +kernel
theorem dJ7_fill_53178_17 : decode cJ7_fill_53178 17 = .ok (.goto (-12), 3) := by decide +kernel
theorem dJ7_fill_53178_20 : decode cJ7_fill_53178 20 = .ok (.return_, 1) := by decide +kernel
theorem dJ3_checkIndex_8e157_0 : decode cJ3_checkIndex_8e157 0 = .ok (.iload_n 0, 1) := by decide +kernel
theorem dJ3_checkIndex_8e157_1 : decode cJ3_checkIndex_8e157 1 = .ok (.ifCond .lt 8, 3) := by decide +kernel
theorem dJ3_checkIndex_8e157_4 : decode cJ3_checkIndex_8e157 4 = .ok (.iload_n 0, 1) := by decide +kernel
theorem dJ3_checkIndex_8e157_5 : decode cJ3_checkIndex_8e157 5 = .ok (.iload_n 1, 1) := by decide +kernel
theorem dJ3_checkIndex_8e157_6 : decode cJ3_checkIndex_8e157 6 = .ok (.if_icmp .lt 10, 3) := by decide +kernel
theorem dJ3_checkIndex_8e157_9 : decode cJ3_checkIndex_8e157 9 = .ok (.aload_n 2, 1) := by decide +kernel
theorem dJ3_checkIndex_8e157_10 : decode cJ3_checkIndex_8e157 10 = .ok (.iload_n 0, 1) := by decide +kernel
theorem dJ3_checkIndex_8e157_11 : decode cJ3_checkIndex_8e157 11 = .ok (.iload_n 1, 1) := by decide +kernel
theorem dJ3_checkIndex_8e157_12 : decode cJ3_checkIndex_8e157 12 = .ok (.invokestatic 95, 3) := by decide +kernel
theorem dJ3_checkIndex_8e157_15 : decode cJ3_checkIndex_8e157 15 = .ok (.athrow, 1) := by decide +kernel
theorem dJ3_checkIndex_8e157_16 : decode cJ3_checkIndex_8e157 16 = .ok (.iload_n 0, 1) := by decide +kernel
theorem dJ3_checkIndex_8e157_17 : decode cJ3_checkIndex_8e157 17 = .ok (.ireturn, 1) := by decide +kernel
theorem dL_truncateInput_0 : decode cL_truncateInput 0 = .ok (.aload_n 2, 1) := by decide +kernel
theorem dL_truncateInput_1 : decode cL_truncateInput 1 = .ok (.iconst 0, 1) := by decide +kernel
theorem dL_truncateInput_2 : decode cL_truncateInput 2 = .ok (.aload_n 0, 1) := by decide +kernel
theorem dL_truncateInput_3 : decode cL_truncateInput 3 = .ok (.iload_n 1, 1) := by decide +kernel
theorem dL_truncateInput_4 : decode cL_truncateInput 4 = .ok (.invokevirtual 7, 3) := by decide +kernel
theorem dL_truncateInput_7 : decode cL_truncateInput 7 = .ok (.i2l, 1) := by decide +kernel
theorem dL_truncateInput_8 : decode cL_truncateInput 8 = .ok (.lastore, 1) := by decide +kernel
theorem dL_truncateInput_9 : decode cL_truncateInput 9 = .ok (.goto 6, 3) := by decide +kernel
theorem dL_truncateInput_12 : decode cL_truncateInput 12 = .ok (.astore_n 3, 1) := by decide +kernel
theorem dL_truncateInput_13 : decode cL_truncateInput 13 = .ok (.iconst 1, 1) := by decide +kernel
theorem dL_truncateInput_14 : decode cL_truncateInput 14 = .ok (.ireturn, 1) := by decide +kernel
theorem dL_truncateInput_15 : decode cL_truncateInput 15 = .ok (.iconst 0, 1) := by decide +kernel
theorem dL_truncateInput_16 : decode cL_truncateInput 16 = .ok (.ireturn, 1) := by decide +kernel
theorem dL_addChimney_0 : decode cL_addChimney 0 = .ok (.aload_n 2, 1) := by decide +kernel
theorem dL_addChimney_1 : decode cL_addChimney 1 = .ok (.iconst 0, 1) := by decide +kernel
theorem dL_addChimney_2 : decode cL_addChimney 2 = .ok (.aload_n 0, 1) := by decide +kernel
theorem dL_addChimney_3 : decode cL_addChimney 3 = .ok (.iload_n 1, 1) := by decide +kernel
theorem dL_addChimney_4 : decode cL_addChimney 4 = .ok (.invokevirtual 15, 3) := by decide +kernel
theorem dL_addChimney_7 : decode cL_addChimney 7 = .ok (.i2l, 1) := by decide +kernel
theorem dL_addChimney_8 : decode cL_addChimney 8 = .ok (.lastore, 1) := by decide +kernel
theorem dL_addChimney_9 : decode cL_addChimney 9 = .ok (.goto 9, 3) := by decide +kernel
theorem dL_addChimney_12 : decode cL_addChimney 12 = .ok (.astore_n 3, 1) := by decide +kernel
theorem dL_addChimney_13 : decode cL_addChimney 13 = .ok (.iconst 1, 1) := by decide +kernel
theorem dL_addChimney_14 : decode cL_addChimney 14 = .ok (.ireturn, 1) := by decide +kernel
theorem dL_addChimney_15 : decode cL_addChimney 15 = .ok (.astore_n 3, 1) := by decide +kernel
theorem dL_addChimney_16 : decode cL_addChimney 16 = .ok (.iconst 2, 1) := by decide +kernel
theorem dL_addChimney_17 : decode cL_addChimney 17 = .ok (.ireturn, 1) := by decide +kernel
theorem dL_addChimney_18 : decode cL_addChimney 18 = .ok (.iconst 0, 1) := by decide +kernel
theorem dL_addChimney_19 : decode cL_addChimney 19 = .ok (.ireturn, 1) := by decide +kernel
theorem dL_addGutter_0 : decode cL_addGutter 0 = .ok (.aload 4, 2) := by decide +kernel
theorem dL_addGutter_2 : decode cL_addGutter 2 = .ok (.iconst 0, 1) := by decide +kernel
theorem dL_addGutter_3 : decode cL_addGutter 3 = .ok (.aload_n 0, 1) := by decide +kernel
theorem dL_addGutter_4 : decode cL_addGutter 4 = .ok (.iload_n 1, 1) := by decide +kernel
theorem dL_addGutter_5 : decode cL_addGutter 5 = .ok (.iload_n 2, 1) := by decide +kernel
theorem dL_addGutter_6 : decode cL_addGutter 6 = .ok (.iload_n 3, 1) := by decide +kernel
theorem dL_addGutter_7 : decode cL_addGutter 7 = .ok (.invokevirtual 20, 3) := by decide +kernel
theorem dL_addGutter_10 : decode cL_addGutter 10 = .ok (.i2l, 1) := by decide +kernel
theorem dL_addGutter_11 : decode cL_addGutter 11 = .ok (.lastore, 1) := by decide +kernel
theorem dL_addGutter_12 : decode cL_addGutter 12 = .ok (.goto 15, 3) := by decide +kernel
theorem dL_addGutter_15 : decode cL_addGutter 15 = .ok (.astore 5, 2) := by decide +kernel
theorem dL_addGutter_17 : decode cL_addGutter 17 = .ok (.iconst 1, 1) := by decide +kernel
theorem dL_addGutter_18 : decode cL_addGutter 18 = .ok (.ireturn, 1) := by decide +kernel
theorem dL_addGutter_19 : decode cL_addGutter 19 = .ok (.astore 5, 2) := by decide +kernel
theorem dL_addGutter_21 : decode cL_addGutter 21 = .ok (.iconst 2, 1) := by decide +kernel
theorem dL_addGutter_22 : decode cL_addGutter 22 = .ok (.ireturn, 1) := by decide +kernel
theorem dL_addGutter_23 : decode cL_addGutter 23 = .ok (.astore 5, 2) := by decide +kernel
theorem dL_addGutter_25 : decode cL_addGutter 25 = .ok (.iconst 3, 1) := by decide +kernel
theorem dL_addGutter_26 : decode cL_addGutter 26 = .ok (.ireturn, 1) := by decide +kernel
theorem dL_addGutter_27 : decode cL_addGutter 27 = .ok (.iconst 0, 1) := by decide +kernel
theorem dL_addGutter_28 : decode cL_addGutter 28 = .ok (.ireturn, 1) := by decide +kernel
theorem dL_addCat_0 : decode cL_addCat 0 = .ok (.aload 4, 2) := by decide +kernel
theorem dL_addCat_2 : decode cL_addCat 2 = .ok (.iconst 0, 1) := by decide +kernel
theorem dL_addCat_3 : decode cL_addCat 3 = .ok (.aload_n 0, 1) := by decide +kernel
theorem dL_addCat_4 : decode cL_addCat 4 = .ok (.iload_n 1, 1) := by decide +kernel
theorem dL_addCat_5 : decode cL_addCat 5 = .ok (.iload_n 2, 1) := by decide +kernel
theorem dL_addCat_6 : decode cL_addCat 6 = .ok (.iload_n 3, 1) := by decide +kernel
theorem dL_addCat_7 : decode cL_addCat 7 = .ok (.invokevirtual 26, 3) := by decide +kernel
theorem dL_addCat_10 : decode cL_addCat 10 = .ok (.i2l, 1) := by decide +kernel
theorem dL_addCat_11 : decode cL_addCat 11 = .ok (.lastore, 1) := by decide +kernel
theorem dL_addCat_12 : decode cL_addCat 12 = .ok (.goto 15, 3) := by decide +kernel
theorem dL_addCat_15 : decode cL_addCat 15 = .ok (.astore 5, 2) := by decide +kernel
theorem dL_addCat_17 : decode cL_addCat 17 = .ok (.iconst 1, 1) := by decide +kernel
theorem dL_addCat_18 : decode cL_addCat 18 = .ok (.ireturn, 1) := by decide +kernel
theorem dL_addCat_19 : decode cL_addCat 19 = .ok (.astore 5, 2) := by decide +kernel
theorem dL_addCat_21 : decode cL_addCat 21 = .ok (.iconst 2, 1) := by decide +kernel
theorem dL_addCat_22 : decode cL_addCat 22 = .ok (.ireturn, 1) := by decide +kernel
theorem dL_addCat_23 : decode cL_addCat 23 = .ok (.astore 5, 2) := by decide +kernel
theorem dL_addCat_25 : decode cL_addCat 25 = .ok (.iconst 3, 1) := by decide +kernel
theorem dL_addCat_26 : decode cL_addCat 26 = .ok (.ireturn, 1) := by decide +kernel
theorem dL_addCat_27 : decode cL_addCat 27 = .ok (.iconst 0, 1) := by decide +kernel
theorem dL_addCat_28 : decode cL_addCat 28 = .ok (.ireturn, 1) := by decide +kernel
theorem dL_step_0 : decode cL_step 0 = .ok (.aload_n 3, 1) := by decide +kernel
theorem dL_step_1 : decode cL_step 1 = .ok (.iconst 0, 1) := by decide +kernel
theorem dL_step_2 : decode cL_step 2 = .ok (.aload_n 0, 1) := by decide +kernel
theorem dL_step_3 : decode cL_step 3 = .ok (.iload_n 1, 1) := by decide +kernel
theorem dL_step_4 : decode cL_step 4 = .ok (.iload_n 2, 1) := by decide +kernel
theorem dL_step_5 : decode cL_step 5 = .ok (.invokevirtual 29, 3) := by decide +kernel
theorem dL_step_8 : decode cL_step 8 = .ok (.i2l, 1) := by decide +kernel
theorem dL_step_9 : decode cL_step 9 = .ok (.lastore, 1) := by decide +kernel
theorem dL_step_10 : decode cL_step 10 = .ok (.goto 11, 3) := by decide +kernel
theorem dL_step_13 : decode cL_step 13 = .ok (.astore 4, 2) := by decide +kernel
theorem dL_step_15 : decode cL_step 15 = .ok (.iconst 1, 1) := by decide +kernel
theorem dL_step_16 : decode cL_step 16 = .ok (.ireturn, 1) := by decide +kernel
theorem dL_step_17 : decode cL_step 17 = .ok (.astore 4, 2) := by decide +kernel
theorem dL_step_19 : decode cL_step 19 = .ok (.iconst 2, 1) := by decide +kernel
theorem dL_step_20 : decode cL_step 20 = .ok (.ireturn, 1) := by decide +kernel
theorem dL_step_21 : decode cL_step 21 = .ok (.iconst 0, 1) := by decide +kernel
theorem dL_step_22 : decode cL_step 22 = .ok (.ireturn, 1) := by decide +kernel
theorem dL_claim_0 : decode cL_claim 0 = .ok (.aload_n 2, 1) := by decide +kernel
theorem dL_claim_1 : decode cL_claim 1 = .ok (.iconst 0, 1) := by decide +kernel
theorem dL_claim_2 : decode cL_claim 2 = .ok (.aload_n 0, 1) := by decide +kernel
theorem dL_claim_3 : decode cL_claim 3 = .ok (.iload_n 1, 1) := by decide +kernel
theorem dL_claim_4 : decode cL_claim 4 = .ok (.invokevirtual 33, 3) := by decide +kernel
theorem dL_claim_7 : decode cL_claim 7 = .ok (.i2l, 1) := by decide +kernel
theorem dL_claim_8 : decode cL_claim 8 = .ok (.lastore, 1) := by decide +kernel
theorem dL_claim_9 : decode cL_claim 9 = .ok (.goto 9, 3) := by decide +kernel
theorem dL_claim_12 : decode cL_claim 12 = .ok (.astore_n 3, 1) := by decide +kernel
theorem dL_claim_13 : decode cL_claim 13 = .ok (.iconst 1, 1) := by decide +kernel
theorem dL_claim_14 : decode cL_claim 14 = .ok (.ireturn, 1) := by decide +kernel
theorem dL_claim_15 : decode cL_claim 15 = .ok (.astore_n 3, 1) := by decide +kernel
theorem dL_claim_16 : decode cL_claim 16 = .ok (.iconst 2, 1) := by decide +kernel
theorem dL_claim_17 : decode cL_claim 17 = .ok (.ireturn, 1) := by decide +kernel
theorem dL_claim_18 : decode cL_claim 18 = .ok (.iconst 0, 1) := by decide +kernel
theorem dL_claim_19 : decode cL_claim 19 = .ok (.ireturn, 1) := by decide +kernel
theorem dL_abandon_0 : decode cL_abandon 0 = .ok (.aload_n 2, 1) := by decide +kernel
theorem dL_abandon_1 : decode cL_abandon 1 = .ok (.iconst 0, 1) := by decide +kernel
theorem dL_abandon_2 : decode cL_abandon 2 = .ok (.aload_n 0, 1) := by decide +kernel
theorem dL_abandon_3 : decode cL_abandon 3 = .ok (.iload_n 1, 1) := by decide +kernel
theorem dL_abandon_4 : decode cL_abandon 4 = .ok (.invokevirtual 36, 3) := by decide +kernel
theorem dL_abandon_7 : decode cL_abandon 7 = .ok (.i2l, 1) := by decide +kernel
theorem dL_abandon_8 : decode cL_abandon 8 = .ok (.lastore, 1) := by decide +kernel
theorem dL_abandon_9 : decode cL_abandon 9 = .ok (.goto 9, 3) := by decide +kernel
theorem dL_abandon_12 : decode cL_abandon 12 = .ok (.astore_n 3, 1) := by decide +kernel
theorem dL_abandon_13 : decode cL_abandon 13 = .ok (.iconst 1, 1) := by decide +kernel
theorem dL_abandon_14 : decode cL_abandon 14 = .ok (.ireturn, 1) := by decide +kernel
theorem dL_abandon_15 : decode cL_abandon 15 = .ok (.astore_n 3, 1) := by decide +kernel
theorem dL_abandon_16 : decode cL_abandon 16 = .ok (.iconst 2, 1) := by decide +kernel
theorem dL_abandon_17 : decode cL_abandon 17 = .ok (.ireturn, 1) := by decide +kernel
theorem dL_abandon_18 : decode cL_abandon 18 = .ok (.iconst 0, 1) := by decide +kernel
theorem dL_abandon_19 : decode cL_abandon 19 = .ok (.ireturn, 1) := by decide +kernel
theorem dL_chase_0 : decode cL_chase 0 = .ok (.aload_n 3, 1) := by decide +kernel
theorem dL_chase_1 : decode cL_chase 1 = .ok (.iconst 0, 1) := by decide +kernel
theorem dL_chase_2 : decode cL_chase 2 = .ok (.aload_n 0, 1) := by decide +kernel
theorem dL_chase_3 : decode cL_chase 3 = .ok (.iload_n 1, 1) := by decide +kernel
theorem dL_chase_4 : decode cL_chase 4 = .ok (.iload_n 2, 1) := by decide +kernel
theorem dL_chase_5 : decode cL_chase 5 = .ok (.invokevirtual 39, 3) := by decide +kernel
theorem dL_chase_8 : decode cL_chase 8 = .ok (.ifCond .eq 7, 3) := by decide +kernel
theorem dL_chase_11 : decode cL_chase 11 = .ok (.lconst 1, 1) := by decide +kernel
theorem dL_chase_12 : decode cL_chase 12 = .ok (.goto 4, 3) := by decide +kernel
theorem dL_chase_15 : decode cL_chase 15 = .ok (.lconst 0, 1) := by decide +kernel
theorem dL_chase_16 : decode cL_chase 16 = .ok (.lastore, 1) := by decide +kernel
theorem dL_chase_17 : decode cL_chase 17 = .ok (.goto 15, 3) := by decide +kernel
theorem dL_chase_20 : decode cL_chase 20 = .ok (.astore 4, 2) := by decide +kernel
theorem dL_chase_22 : decode cL_chase 22 = .ok (.iconst 1, 1) := by decide +kernel
theorem dL_chase_23 : decode cL_chase 23 = .ok (.ireturn, 1) := by decide +kernel
theorem dL_chase_24 : decode cL_chase 24 = .ok (.astore 4, 2) := by decide +kernel
theorem dL_chase_26 : decode cL_chase 26 = .ok (.iconst 2, 1) := by decide +kernel
theorem dL_chase_27 : decode cL_chase 27 = .ok (.ireturn, 1) := by decide +kernel
theorem dL_chase_28 : decode cL_chase 28 = .ok (.astore 4, 2) := by decide +kernel
theorem dL_chase_30 : decode cL_chase 30 = .ok (.iconst 3, 1) := by decide +kernel
theorem dL_chase_31 : decode cL_chase 31 = .ok (.ireturn, 1) := by decide +kernel
theorem dL_chase_32 : decode cL_chase 32 = .ok (.iconst 0, 1) := by decide +kernel
theorem dL_chase_33 : decode cL_chase 33 = .ok (.ireturn, 1) := by decide +kernel
theorem dL_buyTruce_0 : decode cL_buyTruce 0 = .ok (.aload 5, 2) := by decide +kernel
theorem dL_buyTruce_2 : decode cL_buyTruce 2 = .ok (.iconst 0, 1) := by decide +kernel
theorem dL_buyTruce_3 : decode cL_buyTruce 3 = .ok (.aload_n 0, 1) := by decide +kernel
theorem dL_buyTruce_4 : decode cL_buyTruce 4 = .ok (.iload_n 1, 1) := by decide +kernel
theorem dL_buyTruce_5 : decode cL_buyTruce 5 = .ok (.iload_n 2, 1) := by decide +kernel
theorem dL_buyTruce_6 : decode cL_buyTruce 6 = .ok (.iload_n 3, 1) := by decide +kernel
theorem dL_buyTruce_7 : decode cL_buyTruce 7 = .ok (.iload 4, 2) := by decide +kernel
theorem dL_buyTruce_9 : decode cL_buyTruce 9 = .ok (.invokevirtual 43, 3) := by decide +kernel
theorem dL_buyTruce_12 : decode cL_buyTruce 12 = .ok (.i2l, 1) := by decide +kernel
theorem dL_buyTruce_13 : decode cL_buyTruce 13 = .ok (.lastore, 1) := by decide +kernel
theorem dL_buyTruce_14 : decode cL_buyTruce 14 = .ok (.goto 15, 3) := by decide +kernel
theorem dL_buyTruce_17 : decode cL_buyTruce 17 = .ok (.astore 6, 2) := by decide +kernel
theorem dL_buyTruce_19 : decode cL_buyTruce 19 = .ok (.iconst 1, 1) := by decide +kernel
theorem dL_buyTruce_20 : decode cL_buyTruce 20 = .ok (.ireturn, 1) := by decide +kernel
theorem dL_buyTruce_21 : decode cL_buyTruce 21 = .ok (.astore 6, 2) := by decide +kernel
theorem dL_buyTruce_23 : decode cL_buyTruce 23 = .ok (.iconst 2, 1) := by decide +kernel
theorem dL_buyTruce_24 : decode cL_buyTruce 24 = .ok (.ireturn, 1) := by decide +kernel
theorem dL_buyTruce_25 : decode cL_buyTruce 25 = .ok (.astore 6, 2) := by decide +kernel
theorem dL_buyTruce_27 : decode cL_buyTruce 27 = .ok (.iconst 3, 1) := by decide +kernel
theorem dL_buyTruce_28 : decode cL_buyTruce 28 = .ok (.ireturn, 1) := by decide +kernel
theorem dL_buyTruce_29 : decode cL_buyTruce 29 = .ok (.iconst 0, 1) := by decide +kernel
theorem dL_buyTruce_30 : decode cL_buyTruce 30 = .ok (.ireturn, 1) := by decide +kernel
theorem dL_nominate_0 : decode cL_nominate 0 = .ok (.aload_n 3, 1) := by decide +kernel
theorem dL_nominate_1 : decode cL_nominate 1 = .ok (.iconst 0, 1) := by decide +kernel
theorem dL_nominate_2 : decode cL_nominate 2 = .ok (.aload_n 0, 1) := by decide +kernel
theorem dL_nominate_3 : decode cL_nominate 3 = .ok (.iload_n 1, 1) := by decide +kernel
theorem dL_nominate_4 : decode cL_nominate 4 = .ok (.iload_n 2, 1) := by decide +kernel
theorem dL_nominate_5 : decode cL_nominate 5 = .ok (.invokevirtual 47, 3) := by decide +kernel
theorem dL_nominate_8 : decode cL_nominate 8 = .ok (.i2l, 1) := by decide +kernel
theorem dL_nominate_9 : decode cL_nominate 9 = .ok (.lastore, 1) := by decide +kernel
theorem dL_nominate_10 : decode cL_nominate 10 = .ok (.goto 11, 3) := by decide +kernel
theorem dL_nominate_13 : decode cL_nominate 13 = .ok (.astore 4, 2) := by decide +kernel
theorem dL_nominate_15 : decode cL_nominate 15 = .ok (.iconst 1, 1) := by decide +kernel
theorem dL_nominate_16 : decode cL_nominate 16 = .ok (.ireturn, 1) := by decide +kernel
theorem dL_nominate_17 : decode cL_nominate 17 = .ok (.astore 4, 2) := by decide +kernel
theorem dL_nominate_19 : decode cL_nominate 19 = .ok (.iconst 2, 1) := by decide +kernel
theorem dL_nominate_20 : decode cL_nominate 20 = .ok (.ireturn, 1) := by decide +kernel
theorem dL_nominate_21 : decode cL_nominate 21 = .ok (.iconst 0, 1) := by decide +kernel
theorem dL_nominate_22 : decode cL_nominate 22 = .ok (.ireturn, 1) := by decide +kernel
theorem dL_vote_0 : decode cL_vote 0 = .ok (.aload_n 3, 1) := by decide +kernel
theorem dL_vote_1 : decode cL_vote 1 = .ok (.iconst 0, 1) := by decide +kernel
theorem dL_vote_2 : decode cL_vote 2 = .ok (.aload_n 0, 1) := by decide +kernel
theorem dL_vote_3 : decode cL_vote 3 = .ok (.iload_n 1, 1) := by decide +kernel
theorem dL_vote_4 : decode cL_vote 4 = .ok (.iload_n 2, 1) := by decide +kernel
theorem dL_vote_5 : decode cL_vote 5 = .ok (.invokevirtual 50, 3) := by decide +kernel
theorem dL_vote_8 : decode cL_vote 8 = .ok (.ifCond .eq 7, 3) := by decide +kernel
theorem dL_vote_11 : decode cL_vote 11 = .ok (.lconst 1, 1) := by decide +kernel
theorem dL_vote_12 : decode cL_vote 12 = .ok (.goto 4, 3) := by decide +kernel
theorem dL_vote_15 : decode cL_vote 15 = .ok (.lconst 0, 1) := by decide +kernel
theorem dL_vote_16 : decode cL_vote 16 = .ok (.lastore, 1) := by decide +kernel
theorem dL_vote_17 : decode cL_vote 17 = .ok (.goto 11, 3) := by decide +kernel
theorem dL_vote_20 : decode cL_vote 20 = .ok (.astore 4, 2) := by decide +kernel
theorem dL_vote_22 : decode cL_vote 22 = .ok (.iconst 1, 1) := by decide +kernel
theorem dL_vote_23 : decode cL_vote 23 = .ok (.ireturn, 1) := by decide +kernel
theorem dL_vote_24 : decode cL_vote 24 = .ok (.astore 4, 2) := by decide +kernel
theorem dL_vote_26 : decode cL_vote 26 = .ok (.iconst 2, 1) := by decide +kernel
theorem dL_vote_27 : decode cL_vote 27 = .ok (.ireturn, 1) := by decide +kernel
theorem dL_vote_28 : decode cL_vote 28 = .ok (.iconst 0, 1) := by decide +kernel
theorem dL_vote_29 : decode cL_vote 29 = .ok (.ireturn, 1) := by decide +kernel
theorem dL_passNights_0 : decode cL_passNights 0 = .ok (.aload_n 2, 1) := by decide +kernel
theorem dL_passNights_1 : decode cL_passNights 1 = .ok (.iconst 0, 1) := by decide +kernel
theorem dL_passNights_2 : decode cL_passNights 2 = .ok (.aload_n 0, 1) := by decide +kernel
theorem dL_passNights_3 : decode cL_passNights 3 = .ok (.iload_n 1, 1) := by decide +kernel
theorem dL_passNights_4 : decode cL_passNights 4 = .ok (.invokevirtual 54, 3) := by decide +kernel
theorem dL_passNights_7 : decode cL_passNights 7 = .ok (.i2l, 1) := by decide +kernel
theorem dL_passNights_8 : decode cL_passNights 8 = .ok (.lastore, 1) := by decide +kernel
theorem dL_passNights_9 : decode cL_passNights 9 = .ok (.goto 9, 3) := by decide +kernel
theorem dL_passNights_12 : decode cL_passNights 12 = .ok (.astore_n 3, 1) := by decide +kernel
theorem dL_passNights_13 : decode cL_passNights 13 = .ok (.iconst 1, 1) := by decide +kernel
theorem dL_passNights_14 : decode cL_passNights 14 = .ok (.ireturn, 1) := by decide +kernel
theorem dL_passNights_15 : decode cL_passNights 15 = .ok (.astore_n 3, 1) := by decide +kernel
theorem dL_passNights_16 : decode cL_passNights 16 = .ok (.iconst 2, 1) := by decide +kernel
theorem dL_passNights_17 : decode cL_passNights 17 = .ok (.ireturn, 1) := by decide +kernel
theorem dL_passNights_18 : decode cL_passNights 18 = .ok (.iconst 0, 1) := by decide +kernel
theorem dL_passNights_19 : decode cL_passNights 19 = .ok (.ireturn, 1) := by decide +kernel
theorem dL_restoreSnapshot_0 : decode cL_restoreSnapshot 0 = .ok (.aload_n 1, 1) := by decide +kernel
theorem dL_restoreSnapshot_1 : decode cL_restoreSnapshot 1 = .ok (.iconst 0, 1) := by decide +kernel
theorem dL_restoreSnapshot_2 : decode cL_restoreSnapshot 2 = .ok (.aload_n 0, 1) := by decide +kernel
theorem dL_restoreSnapshot_3 : decode cL_restoreSnapshot 3 = .ok (.invokevirtual 57, 3) := by decide +kernel
theorem dL_restoreSnapshot_6 : decode cL_restoreSnapshot 6 = .ok (.i2l, 1) := by decide +kernel
theorem dL_restoreSnapshot_7 : decode cL_restoreSnapshot 7 = .ok (.lastore, 1) := by decide +kernel
theorem dL_restoreSnapshot_8 : decode cL_restoreSnapshot 8 = .ok (.goto 6, 3) := by decide +kernel
theorem dL_restoreSnapshot_11 : decode cL_restoreSnapshot 11 = .ok (.astore_n 2, 1) := by decide +kernel
theorem dL_restoreSnapshot_12 : decode cL_restoreSnapshot 12 = .ok (.iconst 1, 1) := by decide +kernel
theorem dL_restoreSnapshot_13 : decode cL_restoreSnapshot 13 = .ok (.ireturn, 1) := by decide +kernel
theorem dL_restoreSnapshot_14 : decode cL_restoreSnapshot 14 = .ok (.iconst 0, 1) := by decide +kernel
theorem dL_restoreSnapshot_15 : decode cL_restoreSnapshot 15 = .ok (.ireturn, 1) := by decide +kernel
theorem dL_warmth_0 : decode cL_warmth 0 = .ok (.aload_n 2, 1) := by decide +kernel
theorem dL_warmth_1 : decode cL_warmth 1 = .ok (.iconst 0, 1) := by decide +kernel
theorem dL_warmth_2 : decode cL_warmth 2 = .ok (.aload_n 0, 1) := by decide +kernel
theorem dL_warmth_3 : decode cL_warmth 3 = .ok (.iload_n 1, 1) := by decide +kernel
theorem dL_warmth_4 : decode cL_warmth 4 = .ok (.invokevirtual 63, 3) := by decide +kernel
theorem dL_warmth_7 : decode cL_warmth 7 = .ok (.i2l, 1) := by decide +kernel
theorem dL_warmth_8 : decode cL_warmth 8 = .ok (.lastore, 1) := by decide +kernel
theorem dL_warmth_9 : decode cL_warmth 9 = .ok (.goto 6, 3) := by decide +kernel
theorem dL_warmth_12 : decode cL_warmth 12 = .ok (.astore_n 3, 1) := by decide +kernel
theorem dL_warmth_13 : decode cL_warmth 13 = .ok (.iconst 1, 1) := by decide +kernel
theorem dL_warmth_14 : decode cL_warmth 14 = .ok (.ireturn, 1) := by decide +kernel
theorem dL_warmth_15 : decode cL_warmth 15 = .ok (.iconst 0, 1) := by decide +kernel
theorem dL_warmth_16 : decode cL_warmth 16 = .ok (.ireturn, 1) := by decide +kernel
theorem dL_ownerOf_0 : decode cL_ownerOf 0 = .ok (.aload_n 2, 1) := by decide +kernel
theorem dL_ownerOf_1 : decode cL_ownerOf 1 = .ok (.iconst 0, 1) := by decide +kernel
theorem dL_ownerOf_2 : decode cL_ownerOf 2 = .ok (.aload_n 0, 1) := by decide +kernel
theorem dL_ownerOf_3 : decode cL_ownerOf 3 = .ok (.iload_n 1, 1) := by decide +kernel
theorem dL_ownerOf_4 : decode cL_ownerOf 4 = .ok (.invokevirtual 66, 3) := by decide +kernel
theorem dL_ownerOf_7 : decode cL_ownerOf 7 = .ok (.i2l, 1) := by decide +kernel
theorem dL_ownerOf_8 : decode cL_ownerOf 8 = .ok (.lastore, 1) := by decide +kernel
theorem dL_ownerOf_9 : decode cL_ownerOf 9 = .ok (.goto 6, 3) := by decide +kernel
theorem dL_ownerOf_12 : decode cL_ownerOf 12 = .ok (.astore_n 3, 1) := by decide +kernel
theorem dL_ownerOf_13 : decode cL_ownerOf 13 = .ok (.iconst 1, 1) := by decide +kernel
theorem dL_ownerOf_14 : decode cL_ownerOf 14 = .ok (.ireturn, 1) := by decide +kernel
theorem dL_ownerOf_15 : decode cL_ownerOf 15 = .ok (.iconst 0, 1) := by decide +kernel
theorem dL_ownerOf_16 : decode cL_ownerOf 16 = .ok (.ireturn, 1) := by decide +kernel
theorem dL_catOn_0 : decode cL_catOn 0 = .ok (.aload_n 2, 1) := by decide +kernel
theorem dL_catOn_1 : decode cL_catOn 1 = .ok (.iconst 0, 1) := by decide +kernel
theorem dL_catOn_2 : decode cL_catOn 2 = .ok (.aload_n 0, 1) := by decide +kernel
theorem dL_catOn_3 : decode cL_catOn 3 = .ok (.iload_n 1, 1) := by decide +kernel
theorem dL_catOn_4 : decode cL_catOn 4 = .ok (.invokevirtual 69, 3) := by decide +kernel
theorem dL_catOn_7 : decode cL_catOn 7 = .ok (.i2l, 1) := by decide +kernel
theorem dL_catOn_8 : decode cL_catOn 8 = .ok (.lastore, 1) := by decide +kernel
theorem dL_catOn_9 : decode cL_catOn 9 = .ok (.goto 6, 3) := by decide +kernel
theorem dL_catOn_12 : decode cL_catOn 12 = .ok (.astore_n 3, 1) := by decide +kernel
theorem dL_catOn_13 : decode cL_catOn 13 = .ok (.iconst 1, 1) := by decide +kernel
theorem dL_catOn_14 : decode cL_catOn 14 = .ok (.ireturn, 1) := by decide +kernel
theorem dL_catOn_15 : decode cL_catOn 15 = .ok (.iconst 0, 1) := by decide +kernel
theorem dL_catOn_16 : decode cL_catOn 16 = .ok (.ireturn, 1) := by decide +kernel
theorem dL_gutterEnds_0 : decode cL_gutterEnds 0 = .ok (.aload_n 2, 1) := by decide +kernel
theorem dL_gutterEnds_1 : decode cL_gutterEnds 1 = .ok (.iconst 0, 1) := by decide +kernel
theorem dL_gutterEnds_2 : decode cL_gutterEnds 2 = .ok (.aload_n 0, 1) := by decide +kernel
theorem dL_gutterEnds_3 : decode cL_gutterEnds 3 = .ok (.iload_n 1, 1) := by decide +kernel
theorem dL_gutterEnds_4 : decode cL_gutterEnds 4 = .ok (.invokevirtual 72, 3) := by decide +kernel
theorem dL_gutterEnds_7 : decode cL_gutterEnds 7 = .ok (.i2l, 1) := by decide +kernel
theorem dL_gutterEnds_8 : decode cL_gutterEnds 8 = .ok (.lastore, 1) := by decide +kernel
theorem dL_gutterEnds_9 : decode cL_gutterEnds 9 = .ok (.goto 6, 3) := by decide +kernel
theorem dL_gutterEnds_12 : decode cL_gutterEnds 12 = .ok (.astore_n 3, 1) := by decide +kernel
theorem dL_gutterEnds_13 : decode cL_gutterEnds 13 = .ok (.iconst 1, 1) := by decide +kernel
theorem dL_gutterEnds_14 : decode cL_gutterEnds 14 = .ok (.ireturn, 1) := by decide +kernel
theorem dL_gutterEnds_15 : decode cL_gutterEnds 15 = .ok (.iconst 0, 1) := by decide +kernel
theorem dL_gutterEnds_16 : decode cL_gutterEnds 16 = .ok (.ireturn, 1) := by decide +kernel
theorem dL_width_0 : decode cL_width 0 = .ok (.aload_n 2, 1) := by decide +kernel
theorem dL_width_1 : decode cL_width 1 = .ok (.iconst 0, 1) := by decide +kernel
theorem dL_width_2 : decode cL_width 2 = .ok (.aload_n 0, 1) := by decide +kernel
theorem dL_width_3 : decode cL_width 3 = .ok (.iload_n 1, 1) := by decide +kernel
theorem dL_width_4 : decode cL_width 4 = .ok (.invokevirtual 75, 3) := by decide +kernel
theorem dL_width_7 : decode cL_width 7 = .ok (.i2l, 1) := by decide +kernel
theorem dL_width_8 : decode cL_width 8 = .ok (.lastore, 1) := by decide +kernel
theorem dL_width_9 : decode cL_width 9 = .ok (.goto 6, 3) := by decide +kernel
theorem dL_width_12 : decode cL_width 12 = .ok (.astore_n 3, 1) := by decide +kernel
theorem dL_width_13 : decode cL_width 13 = .ok (.iconst 1, 1) := by decide +kernel
theorem dL_width_14 : decode cL_width 14 = .ok (.ireturn, 1) := by decide +kernel
theorem dL_width_15 : decode cL_width 15 = .ok (.iconst 0, 1) := by decide +kernel
theorem dL_width_16 : decode cL_width 16 = .ok (.ireturn, 1) := by decide +kernel
theorem dL_widestWay_0 : decode cL_widestWay 0 = .ok (.aload_n 3, 1) := by decide +kernel
theorem dL_widestWay_1 : decode cL_widestWay 1 = .ok (.iconst 0, 1) := by decide +kernel
theorem dL_widestWay_2 : decode cL_widestWay 2 = .ok (.aload_n 0, 1) := by decide +kernel
theorem dL_widestWay_3 : decode cL_widestWay 3 = .ok (.iload_n 1, 1) := by decide +kernel
theorem dL_widestWay_4 : decode cL_widestWay 4 = .ok (.iload_n 2, 1) := by decide +kernel
theorem dL_widestWay_5 : decode cL_widestWay 5 = .ok (.invokevirtual 78, 3) := by decide +kernel
theorem dL_widestWay_8 : decode cL_widestWay 8 = .ok (.i2l, 1) := by decide +kernel
theorem dL_widestWay_9 : decode cL_widestWay 9 = .ok (.lastore, 1) := by decide +kernel
theorem dL_widestWay_10 : decode cL_widestWay 10 = .ok (.goto 7, 3) := by decide +kernel
theorem dL_widestWay_13 : decode cL_widestWay 13 = .ok (.astore 4, 2) := by decide +kernel
theorem dL_widestWay_15 : decode cL_widestWay 15 = .ok (.iconst 1, 1) := by decide +kernel
theorem dL_widestWay_16 : decode cL_widestWay 16 = .ok (.ireturn, 1) := by decide +kernel
theorem dL_widestWay_17 : decode cL_widestWay 17 = .ok (.iconst 0, 1) := by decide +kernel
theorem dL_widestWay_18 : decode cL_widestWay 18 = .ok (.ireturn, 1) := by decide +kernel
theorem dL_girth_0 : decode cL_girth 0 = .ok (.aload_n 2, 1) := by decide +kernel
theorem dL_girth_1 : decode cL_girth 1 = .ok (.iconst 0, 1) := by decide +kernel
theorem dL_girth_2 : decode cL_girth 2 = .ok (.aload_n 0, 1) := by decide +kernel
theorem dL_girth_3 : decode cL_girth 3 = .ok (.iload_n 1, 1) := by decide +kernel
theorem dL_girth_4 : decode cL_girth 4 = .ok (.invokevirtual 81, 3) := by decide +kernel
theorem dL_girth_7 : decode cL_girth 7 = .ok (.i2l, 1) := by decide +kernel
theorem dL_girth_8 : decode cL_girth 8 = .ok (.lastore, 1) := by decide +kernel
theorem dL_girth_9 : decode cL_girth 9 = .ok (.goto 6, 3) := by decide +kernel
theorem dL_girth_12 : decode cL_girth 12 = .ok (.astore_n 3, 1) := by decide +kernel
theorem dL_girth_13 : decode cL_girth 13 = .ok (.iconst 1, 1) := by decide +kernel
theorem dL_girth_14 : decode cL_girth 14 = .ok (.ireturn, 1) := by decide +kernel
theorem dL_girth_15 : decode cL_girth 15 = .ok (.iconst 0, 1) := by decide +kernel
theorem dL_girth_16 : decode cL_girth 16 = .ok (.ireturn, 1) := by decide +kernel
theorem dL_power_0 : decode cL_power 0 = .ok (.aload_n 2, 1) := by decide +kernel
theorem dL_power_1 : decode cL_power 1 = .ok (.iconst 0, 1) := by decide +kernel
theorem dL_power_2 : decode cL_power 2 = .ok (.aload_n 0, 1) := by decide +kernel
theorem dL_power_3 : decode cL_power 3 = .ok (.iload_n 1, 1) := by decide +kernel
theorem dL_power_4 : decode cL_power 4 = .ok (.invokevirtual 84, 3) := by decide +kernel
theorem dL_power_7 : decode cL_power 7 = .ok (.i2l, 1) := by decide +kernel
theorem dL_power_8 : decode cL_power 8 = .ok (.lastore, 1) := by decide +kernel
theorem dL_power_9 : decode cL_power 9 = .ok (.goto 6, 3) := by decide +kernel
theorem dL_power_12 : decode cL_power 12 = .ok (.astore_n 3, 1) := by decide +kernel
theorem dL_power_13 : decode cL_power 13 = .ok (.iconst 1, 1) := by decide +kernel
theorem dL_power_14 : decode cL_power 14 = .ok (.ireturn, 1) := by decide +kernel
theorem dL_power_15 : decode cL_power 15 = .ok (.iconst 0, 1) := by decide +kernel
theorem dL_power_16 : decode cL_power 16 = .ok (.ireturn, 1) := by decide +kernel
theorem dL_fish_0 : decode cL_fish 0 = .ok (.aload_n 2, 1) := by decide +kernel
theorem dL_fish_1 : decode cL_fish 1 = .ok (.iconst 0, 1) := by decide +kernel
theorem dL_fish_2 : decode cL_fish 2 = .ok (.aload_n 0, 1) := by decide +kernel
theorem dL_fish_3 : decode cL_fish 3 = .ok (.iload_n 1, 1) := by decide +kernel
theorem dL_fish_4 : decode cL_fish 4 = .ok (.invokevirtual 87, 3) := by decide +kernel
theorem dL_fish_7 : decode cL_fish 7 = .ok (.i2l, 1) := by decide +kernel
theorem dL_fish_8 : decode cL_fish 8 = .ok (.lastore, 1) := by decide +kernel
theorem dL_fish_9 : decode cL_fish 9 = .ok (.goto 6, 3) := by decide +kernel
theorem dL_fish_12 : decode cL_fish 12 = .ok (.astore_n 3, 1) := by decide +kernel
theorem dL_fish_13 : decode cL_fish 13 = .ok (.iconst 1, 1) := by decide +kernel
theorem dL_fish_14 : decode cL_fish 14 = .ok (.ireturn, 1) := by decide +kernel
theorem dL_fish_15 : decode cL_fish 15 = .ok (.iconst 0, 1) := by decide +kernel
theorem dL_fish_16 : decode cL_fish 16 = .ok (.ireturn, 1) := by decide +kernel
theorem dL_chimneyOf_0 : decode cL_chimneyOf 0 = .ok (.aload_n 2, 1) := by decide +kernel
theorem dL_chimneyOf_1 : decode cL_chimneyOf 1 = .ok (.iconst 0, 1) := by decide +kernel
theorem dL_chimneyOf_2 : decode cL_chimneyOf 2 = .ok (.aload_n 0, 1) := by decide +kernel
theorem dL_chimneyOf_3 : decode cL_chimneyOf 3 = .ok (.iload_n 1, 1) := by decide +kernel
theorem dL_chimneyOf_4 : decode cL_chimneyOf 4 = .ok (.invokevirtual 90, 3) := by decide +kernel
theorem dL_chimneyOf_7 : decode cL_chimneyOf 7 = .ok (.i2l, 1) := by decide +kernel
theorem dL_chimneyOf_8 : decode cL_chimneyOf 8 = .ok (.lastore, 1) := by decide +kernel
theorem dL_chimneyOf_9 : decode cL_chimneyOf 9 = .ok (.goto 6, 3) := by decide +kernel
theorem dL_chimneyOf_12 : decode cL_chimneyOf 12 = .ok (.astore_n 3, 1) := by decide +kernel
theorem dL_chimneyOf_13 : decode cL_chimneyOf 13 = .ok (.iconst 1, 1) := by decide +kernel
theorem dL_chimneyOf_14 : decode cL_chimneyOf 14 = .ok (.ireturn, 1) := by decide +kernel
theorem dL_chimneyOf_15 : decode cL_chimneyOf 15 = .ok (.iconst 0, 1) := by decide +kernel
theorem dL_chimneyOf_16 : decode cL_chimneyOf 16 = .ok (.ireturn, 1) := by decide +kernel
theorem dL_ownedChimneys_0 : decode cL_ownedChimneys 0 = .ok (.aload_n 2, 1) := by decide +kernel
theorem dL_ownedChimneys_1 : decode cL_ownedChimneys 1 = .ok (.iconst 0, 1) := by decide +kernel
theorem dL_ownedChimneys_2 : decode cL_ownedChimneys 2 = .ok (.aload_n 0, 1) := by decide +kernel
theorem dL_ownedChimneys_3 : decode cL_ownedChimneys 3 = .ok (.iload_n 1, 1) := by decide +kernel
theorem dL_ownedChimneys_4 : decode cL_ownedChimneys 4 = .ok (.invokevirtual 93, 3) := by decide +kernel
theorem dL_ownedChimneys_7 : decode cL_ownedChimneys 7 = .ok (.i2l, 1) := by decide +kernel
theorem dL_ownedChimneys_8 : decode cL_ownedChimneys 8 = .ok (.lastore, 1) := by decide +kernel
theorem dL_ownedChimneys_9 : decode cL_ownedChimneys 9 = .ok (.goto 6, 3) := by decide +kernel
theorem dL_ownedChimneys_12 : decode cL_ownedChimneys 12 = .ok (.astore_n 3, 1) := by decide +kernel
theorem dL_ownedChimneys_13 : decode cL_ownedChimneys 13 = .ok (.iconst 1, 1) := by decide +kernel
theorem dL_ownedChimneys_14 : decode cL_ownedChimneys 14 = .ok (.ireturn, 1) := by decide +kernel
theorem dL_ownedChimneys_15 : decode cL_ownedChimneys 15 = .ok (.iconst 0, 1) := by decide +kernel
theorem dL_ownedChimneys_16 : decode cL_ownedChimneys 16 = .ok (.ireturn, 1) := by decide +kernel
theorem dL_truceNights_0 : decode cL_truceNights 0 = .ok (.aload_n 3, 1) := by decide +kernel
theorem dL_truceNights_1 : decode cL_truceNights 1 = .ok (.iconst 0, 1) := by decide +kernel
theorem dL_truceNights_2 : decode cL_truceNights 2 = .ok (.aload_n 0, 1) := by decide +kernel
theorem dL_truceNights_3 : decode cL_truceNights 3 = .ok (.iload_n 1, 1) := by decide +kernel
theorem dL_truceNights_4 : decode cL_truceNights 4 = .ok (.iload_n 2, 1) := by decide +kernel
theorem dL_truceNights_5 : decode cL_truceNights 5 = .ok (.invokevirtual 96, 3) := by decide +kernel
theorem dL_truceNights_8 : decode cL_truceNights 8 = .ok (.i2l, 1) := by decide +kernel
theorem dL_truceNights_9 : decode cL_truceNights 9 = .ok (.lastore, 1) := by decide +kernel
theorem dL_truceNights_10 : decode cL_truceNights 10 = .ok (.goto 11, 3) := by decide +kernel
theorem dL_truceNights_13 : decode cL_truceNights 13 = .ok (.astore 4, 2) := by decide +kernel
theorem dL_truceNights_15 : decode cL_truceNights 15 = .ok (.iconst 1, 1) := by decide +kernel
theorem dL_truceNights_16 : decode cL_truceNights 16 = .ok (.ireturn, 1) := by decide +kernel
theorem dL_truceNights_17 : decode cL_truceNights 17 = .ok (.astore 4, 2) := by decide +kernel
theorem dL_truceNights_19 : decode cL_truceNights 19 = .ok (.iconst 2, 1) := by decide +kernel
theorem dL_truceNights_20 : decode cL_truceNights 20 = .ok (.ireturn, 1) := by decide +kernel
theorem dL_truceNights_21 : decode cL_truceNights 21 = .ok (.iconst 0, 1) := by decide +kernel
theorem dL_truceNights_22 : decode cL_truceNights 22 = .ok (.ireturn, 1) := by decide +kernel
theorem dL_reachable_0 : decode cL_reachable 0 = .ok (.aload_n 2, 1) := by decide +kernel
theorem dL_reachable_1 : decode cL_reachable 1 = .ok (.iconst 0, 1) := by decide +kernel
theorem dL_reachable_2 : decode cL_reachable 2 = .ok (.aload_n 0, 1) := by decide +kernel
theorem dL_reachable_3 : decode cL_reachable 3 = .ok (.iload_n 1, 1) := by decide +kernel
theorem dL_reachable_4 : decode cL_reachable 4 = .ok (.invokevirtual 99, 3) := by decide +kernel
theorem dL_reachable_7 : decode cL_reachable 7 = .ok (.i2l, 1) := by decide +kernel
theorem dL_reachable_8 : decode cL_reachable 8 = .ok (.lastore, 1) := by decide +kernel
theorem dL_reachable_9 : decode cL_reachable 9 = .ok (.goto 6, 3) := by decide +kernel
theorem dL_reachable_12 : decode cL_reachable 12 = .ok (.astore_n 3, 1) := by decide +kernel
theorem dL_reachable_13 : decode cL_reachable 13 = .ok (.iconst 1, 1) := by decide +kernel
theorem dL_reachable_14 : decode cL_reachable 14 = .ok (.ireturn, 1) := by decide +kernel
theorem dL_reachable_15 : decode cL_reachable 15 = .ok (.iconst 0, 1) := by decide +kernel
theorem dL_reachable_16 : decode cL_reachable 16 = .ok (.ireturn, 1) := by decide +kernel
theorem dL_stepsTo_0 : decode cL_stepsTo 0 = .ok (.aload_n 3, 1) := by decide +kernel
theorem dL_stepsTo_1 : decode cL_stepsTo 1 = .ok (.iconst 0, 1) := by decide +kernel
theorem dL_stepsTo_2 : decode cL_stepsTo 2 = .ok (.aload_n 0, 1) := by decide +kernel
theorem dL_stepsTo_3 : decode cL_stepsTo 3 = .ok (.iload_n 1, 1) := by decide +kernel
theorem dL_stepsTo_4 : decode cL_stepsTo 4 = .ok (.iload_n 2, 1) := by decide +kernel
theorem dL_stepsTo_5 : decode cL_stepsTo 5 = .ok (.invokevirtual 102, 3) := by decide +kernel
theorem dL_stepsTo_8 : decode cL_stepsTo 8 = .ok (.i2l, 1) := by decide +kernel
theorem dL_stepsTo_9 : decode cL_stepsTo 9 = .ok (.lastore, 1) := by decide +kernel
theorem dL_stepsTo_10 : decode cL_stepsTo 10 = .ok (.goto 7, 3) := by decide +kernel
theorem dL_stepsTo_13 : decode cL_stepsTo 13 = .ok (.astore 4, 2) := by decide +kernel
theorem dL_stepsTo_15 : decode cL_stepsTo 15 = .ok (.iconst 1, 1) := by decide +kernel
theorem dL_stepsTo_16 : decode cL_stepsTo 16 = .ok (.ireturn, 1) := by decide +kernel
theorem dL_stepsTo_17 : decode cL_stepsTo 17 = .ok (.iconst 0, 1) := by decide +kernel
theorem dL_stepsTo_18 : decode cL_stepsTo 18 = .ok (.ireturn, 1) := by decide +kernel
theorem dL_openGutters_0 : decode cL_openGutters 0 = .ok (.aload_n 2, 1) := by decide +kernel
theorem dL_openGutters_1 : decode cL_openGutters 1 = .ok (.iconst 0, 1) := by decide +kernel
theorem dL_openGutters_2 : decode cL_openGutters 2 = .ok (.aload_n 0, 1) := by decide +kernel
theorem dL_openGutters_3 : decode cL_openGutters 3 = .ok (.iload_n 1, 1) := by decide +kernel
theorem dL_openGutters_4 : decode cL_openGutters 4 = .ok (.invokevirtual 105, 3) := by decide +kernel
theorem dL_openGutters_7 : decode cL_openGutters 7 = .ok (.i2l, 1) := by decide +kernel
theorem dL_openGutters_8 : decode cL_openGutters 8 = .ok (.lastore, 1) := by decide +kernel
theorem dL_openGutters_9 : decode cL_openGutters 9 = .ok (.goto 6, 3) := by decide +kernel
theorem dL_openGutters_12 : decode cL_openGutters 12 = .ok (.astore_n 3, 1) := by decide +kernel
theorem dL_openGutters_13 : decode cL_openGutters 13 = .ok (.iconst 1, 1) := by decide +kernel
theorem dL_openGutters_14 : decode cL_openGutters 14 = .ok (.ireturn, 1) := by decide +kernel
theorem dL_openGutters_15 : decode cL_openGutters 15 = .ok (.iconst 0, 1) := by decide +kernel
theorem dL_openGutters_16 : decode cL_openGutters 16 = .ok (.ireturn, 1) := by decide +kernel
theorem dL_whyNoStep_0 : decode cL_whyNoStep 0 = .ok (.aload_n 3, 1) := by decide +kernel
theorem dL_whyNoStep_1 : decode cL_whyNoStep 1 = .ok (.iconst 0, 1) := by decide +kernel
theorem dL_whyNoStep_2 : decode cL_whyNoStep 2 = .ok (.aload_n 0, 1) := by decide +kernel
theorem dL_whyNoStep_3 : decode cL_whyNoStep 3 = .ok (.iload_n 1, 1) := by decide +kernel
theorem dL_whyNoStep_4 : decode cL_whyNoStep 4 = .ok (.iload_n 2, 1) := by decide +kernel
theorem dL_whyNoStep_5 : decode cL_whyNoStep 5 = .ok (.invokevirtual 108, 3) := by decide +kernel
theorem dL_whyNoStep_8 : decode cL_whyNoStep 8 = .ok (.i2l, 1) := by decide +kernel
theorem dL_whyNoStep_9 : decode cL_whyNoStep 9 = .ok (.lastore, 1) := by decide +kernel
theorem dL_whyNoStep_10 : decode cL_whyNoStep 10 = .ok (.goto 7, 3) := by decide +kernel
theorem dL_whyNoStep_13 : decode cL_whyNoStep 13 = .ok (.astore 4, 2) := by decide +kernel
theorem dL_whyNoStep_15 : decode cL_whyNoStep 15 = .ok (.iconst 1, 1) := by decide +kernel
theorem dL_whyNoStep_16 : decode cL_whyNoStep 16 = .ok (.ireturn, 1) := by decide +kernel
theorem dL_whyNoStep_17 : decode cL_whyNoStep 17 = .ok (.iconst 0, 1) := by decide +kernel
theorem dL_whyNoStep_18 : decode cL_whyNoStep 18 = .ok (.ireturn, 1) := by decide +kernel
theorem dL_whyNoClaim_0 : decode cL_whyNoClaim 0 = .ok (.aload_n 2, 1) := by decide +kernel
theorem dL_whyNoClaim_1 : decode cL_whyNoClaim 1 = .ok (.iconst 0, 1) := by decide +kernel
theorem dL_whyNoClaim_2 : decode cL_whyNoClaim 2 = .ok (.aload_n 0, 1) := by decide +kernel
theorem dL_whyNoClaim_3 : decode cL_whyNoClaim 3 = .ok (.iload_n 1, 1) := by decide +kernel
theorem dL_whyNoClaim_4 : decode cL_whyNoClaim 4 = .ok (.invokevirtual 111, 3) := by decide +kernel
theorem dL_whyNoClaim_7 : decode cL_whyNoClaim 7 = .ok (.i2l, 1) := by decide +kernel
theorem dL_whyNoClaim_8 : decode cL_whyNoClaim 8 = .ok (.lastore, 1) := by decide +kernel
theorem dL_whyNoClaim_9 : decode cL_whyNoClaim 9 = .ok (.goto 6, 3) := by decide +kernel
theorem dL_whyNoClaim_12 : decode cL_whyNoClaim 12 = .ok (.astore_n 3, 1) := by decide +kernel
theorem dL_whyNoClaim_13 : decode cL_whyNoClaim 13 = .ok (.iconst 1, 1) := by decide +kernel
theorem dL_whyNoClaim_14 : decode cL_whyNoClaim 14 = .ok (.ireturn, 1) := by decide +kernel
theorem dL_whyNoClaim_15 : decode cL_whyNoClaim 15 = .ok (.iconst 0, 1) := by decide +kernel
theorem dL_whyNoClaim_16 : decode cL_whyNoClaim 16 = .ok (.ireturn, 1) := by decide +kernel
theorem dL_whyNoChase_0 : decode cL_whyNoChase 0 = .ok (.aload_n 3, 1) := by decide +kernel
theorem dL_whyNoChase_1 : decode cL_whyNoChase 1 = .ok (.iconst 0, 1) := by decide +kernel
theorem dL_whyNoChase_2 : decode cL_whyNoChase 2 = .ok (.aload_n 0, 1) := by decide +kernel
theorem dL_whyNoChase_3 : decode cL_whyNoChase 3 = .ok (.iload_n 1, 1) := by decide +kernel
theorem dL_whyNoChase_4 : decode cL_whyNoChase 4 = .ok (.iload_n 2, 1) := by decide +kernel
theorem dL_whyNoChase_5 : decode cL_whyNoChase 5 = .ok (.invokevirtual 114, 3) := by decide +kernel
theorem dL_whyNoChase_8 : decode cL_whyNoChase 8 = .ok (.i2l, 1) := by decide +kernel
theorem dL_whyNoChase_9 : decode cL_whyNoChase 9 = .ok (.lastore, 1) := by decide +kernel
theorem dL_whyNoChase_10 : decode cL_whyNoChase 10 = .ok (.goto 11, 3) := by decide +kernel
theorem dL_whyNoChase_13 : decode cL_whyNoChase 13 = .ok (.astore 4, 2) := by decide +kernel
theorem dL_whyNoChase_15 : decode cL_whyNoChase 15 = .ok (.iconst 1, 1) := by decide +kernel
theorem dL_whyNoChase_16 : decode cL_whyNoChase 16 = .ok (.ireturn, 1) := by decide +kernel
theorem dL_whyNoChase_17 : decode cL_whyNoChase 17 = .ok (.astore 4, 2) := by decide +kernel
theorem dL_whyNoChase_19 : decode cL_whyNoChase 19 = .ok (.iconst 2, 1) := by decide +kernel
theorem dL_whyNoChase_20 : decode cL_whyNoChase 20 = .ok (.ireturn, 1) := by decide +kernel
theorem dL_whyNoChase_21 : decode cL_whyNoChase 21 = .ok (.iconst 0, 1) := by decide +kernel
theorem dL_whyNoChase_22 : decode cL_whyNoChase 22 = .ok (.ireturn, 1) := by decide +kernel
theorem dL_preyOf_0 : decode cL_preyOf 0 = .ok (.aload_n 2, 1) := by decide +kernel
theorem dL_preyOf_1 : decode cL_preyOf 1 = .ok (.iconst 0, 1) := by decide +kernel
theorem dL_preyOf_2 : decode cL_preyOf 2 = .ok (.aload_n 0, 1) := by decide +kernel
theorem dL_preyOf_3 : decode cL_preyOf 3 = .ok (.iload_n 1, 1) := by decide +kernel
theorem dL_preyOf_4 : decode cL_preyOf 4 = .ok (.invokevirtual 117, 3) := by decide +kernel
theorem dL_preyOf_7 : decode cL_preyOf 7 = .ok (.i2l, 1) := by decide +kernel
theorem dL_preyOf_8 : decode cL_preyOf 8 = .ok (.lastore, 1) := by decide +kernel
theorem dL_preyOf_9 : decode cL_preyOf 9 = .ok (.goto 6, 3) := by decide +kernel
theorem dL_preyOf_12 : decode cL_preyOf 12 = .ok (.astore_n 3, 1) := by decide +kernel
theorem dL_preyOf_13 : decode cL_preyOf 13 = .ok (.iconst 1, 1) := by decide +kernel
theorem dL_preyOf_14 : decode cL_preyOf 14 = .ok (.ireturn, 1) := by decide +kernel
theorem dL_preyOf_15 : decode cL_preyOf 15 = .ok (.iconst 0, 1) := by decide +kernel
theorem dL_preyOf_16 : decode cL_preyOf 16 = .ok (.ireturn, 1) := by decide +kernel
theorem dL_hasVoted_0 : decode cL_hasVoted 0 = .ok (.aload_n 2, 1) := by decide +kernel
theorem dL_hasVoted_1 : decode cL_hasVoted 1 = .ok (.iconst 0, 1) := by decide +kernel
theorem dL_hasVoted_2 : decode cL_hasVoted 2 = .ok (.aload_n 0, 1) := by decide +kernel
theorem dL_hasVoted_3 : decode cL_hasVoted 3 = .ok (.iload_n 1, 1) := by decide +kernel
theorem dL_hasVoted_4 : decode cL_hasVoted 4 = .ok (.invokevirtual 120, 3) := by decide +kernel
theorem dL_hasVoted_7 : decode cL_hasVoted 7 = .ok (.ifCond .eq 7, 3) := by decide +kernel
theorem dL_hasVoted_10 : decode cL_hasVoted 10 = .ok (.lconst 1, 1) := by decide +kernel
theorem dL_hasVoted_11 : decode cL_hasVoted 11 = .ok (.goto 4, 3) := by decide +kernel
theorem dL_hasVoted_14 : decode cL_hasVoted 14 = .ok (.lconst 0, 1) := by decide +kernel
theorem dL_hasVoted_15 : decode cL_hasVoted 15 = .ok (.lastore, 1) := by decide +kernel
theorem dL_hasVoted_16 : decode cL_hasVoted 16 = .ok (.goto 6, 3) := by decide +kernel
theorem dL_hasVoted_19 : decode cL_hasVoted 19 = .ok (.astore_n 3, 1) := by decide +kernel
theorem dL_hasVoted_20 : decode cL_hasVoted 20 = .ok (.iconst 1, 1) := by decide +kernel
theorem dL_hasVoted_21 : decode cL_hasVoted 21 = .ok (.ireturn, 1) := by decide +kernel
theorem dL_hasVoted_22 : decode cL_hasVoted 22 = .ok (.iconst 0, 1) := by decide +kernel
theorem dL_hasVoted_23 : decode cL_hasVoted 23 = .ok (.ireturn, 1) := by decide +kernel
theorem dL_choirOf_0 : decode cL_choirOf 0 = .ok (.aload_n 2, 1) := by decide +kernel
theorem dL_choirOf_1 : decode cL_choirOf 1 = .ok (.iconst 0, 1) := by decide +kernel
theorem dL_choirOf_2 : decode cL_choirOf 2 = .ok (.aload_n 0, 1) := by decide +kernel
theorem dL_choirOf_3 : decode cL_choirOf 3 = .ok (.iload_n 1, 1) := by decide +kernel
theorem dL_choirOf_4 : decode cL_choirOf 4 = .ok (.invokevirtual 124, 3) := by decide +kernel
theorem dL_choirOf_7 : decode cL_choirOf 7 = .ok (.i2l, 1) := by decide +kernel
theorem dL_choirOf_8 : decode cL_choirOf 8 = .ok (.lastore, 1) := by decide +kernel
theorem dL_choirOf_9 : decode cL_choirOf 9 = .ok (.goto 6, 3) := by decide +kernel
theorem dL_choirOf_12 : decode cL_choirOf 12 = .ok (.astore_n 3, 1) := by decide +kernel
theorem dL_choirOf_13 : decode cL_choirOf 13 = .ok (.iconst 1, 1) := by decide +kernel
theorem dL_choirOf_14 : decode cL_choirOf 14 = .ok (.ireturn, 1) := by decide +kernel
theorem dL_choirOf_15 : decode cL_choirOf 15 = .ok (.iconst 0, 1) := by decide +kernel
theorem dL_choirOf_16 : decode cL_choirOf 16 = .ok (.ireturn, 1) := by decide +kernel
theorem dL_fishAfter_0 : decode cL_fishAfter 0 = .ok (.aload_n 3, 1) := by decide +kernel
theorem dL_fishAfter_1 : decode cL_fishAfter 1 = .ok (.iconst 0, 1) := by decide +kernel
theorem dL_fishAfter_2 : decode cL_fishAfter 2 = .ok (.aload_n 0, 1) := by decide +kernel
theorem dL_fishAfter_3 : decode cL_fishAfter 3 = .ok (.iload_n 1, 1) := by decide +kernel
theorem dL_fishAfter_4 : decode cL_fishAfter 4 = .ok (.iload_n 2, 1) := by decide +kernel
theorem dL_fishAfter_5 : decode cL_fishAfter 5 = .ok (.invokevirtual 127, 3) := by decide +kernel
theorem dL_fishAfter_8 : decode cL_fishAfter 8 = .ok (.i2l, 1) := by decide +kernel
theorem dL_fishAfter_9 : decode cL_fishAfter 9 = .ok (.lastore, 1) := by decide +kernel
theorem dL_fishAfter_10 : decode cL_fishAfter 10 = .ok (.goto 11, 3) := by decide +kernel
theorem dL_fishAfter_13 : decode cL_fishAfter 13 = .ok (.astore 4, 2) := by decide +kernel
theorem dL_fishAfter_15 : decode cL_fishAfter 15 = .ok (.iconst 1, 1) := by decide +kernel
theorem dL_fishAfter_16 : decode cL_fishAfter 16 = .ok (.ireturn, 1) := by decide +kernel
theorem dL_fishAfter_17 : decode cL_fishAfter 17 = .ok (.astore 4, 2) := by decide +kernel
theorem dL_fishAfter_19 : decode cL_fishAfter 19 = .ok (.iconst 2, 1) := by decide +kernel
theorem dL_fishAfter_20 : decode cL_fishAfter 20 = .ok (.ireturn, 1) := by decide +kernel
theorem dL_fishAfter_21 : decode cL_fishAfter 21 = .ok (.iconst 0, 1) := by decide +kernel
theorem dL_fishAfter_22 : decode cL_fishAfter 22 = .ok (.ireturn, 1) := by decide +kernel
