theorem dX2_init_0 : decode cX2_init 0 = .ok (.aload_n 0, 1) := by decide +kernel
theorem dX2_init_1 : decode cX2_init 1 = .ok (.invokespecial 3, 3) := by decide +kernel
theorem dX2_init_4 : decode cX2_init 4 = .ok (.aload_n 0, 1) := by decide +kernel
theorem dX2_init_5 : decode cX2_init 5 = .ok (.bipush 8, 2) := by decide +kernel
theorem dX2_init_7 : decode cX2_init 7 = .ok (.anewarray 9, 3) := by decide +kernel
theorem dX2_init_10 : decode cX2_init 10 = .ok (.putfield 11, 3) := by decide +kernel
theorem dX2_init_13 : decode cX2_init 13 = .ok (.aload_n 0, 1) := by decide +kernel
theorem dX2_init_14 : decode cX2_init 14 = .ok (.iconst 0, 1) := by decide +kernel
theorem dX2_init_15 : decode cX2_init 15 = .ok (.putfield 17, 3) := by decide +kernel
theorem dX2_init_18 : decode cX2_init 18 = .ok (.aload_n 0, 1) := by decide +kernel
theorem dX2_init_19 : decode cX2_init 19 = .ok (.iconst 0, 1) := by decide +kernel
theorem dX2_init_20 : decode cX2_init 20 = .ok (.putfield 21, 3) := by decide +kernel
theorem dX2_init_23 : decode cX2_init 23 = .ok (.iconst 0, 1) := by decide +kernel
theorem dX2_init_24 : decode cX2_init 24 = .ok (.istore_n 1, 1) := by decide +kernel
theorem dX2_init_25 : decode cX2_init 25 = .ok (.iload_n 1, 1) := by decide +kernel
theorem dX2_init_26 : decode cX2_init 26 = .ok (.bipush 8, 2) := by decide +kernel
theorem dX2_init_28 : decode cX2_init 28 = .ok (.if_icmp .ge 22, 3) := by decide +kernel
theorem dX2_init_31 : decode cX2_init 31 = .ok (.aload_n 0, 1) := by decide +kernel
theorem dX2_init_32 : decode cX2_init 32 = .ok (.getfield 11, 3) := by decide +kernel
theorem dX2_init_35 : decode cX2_init 35 = .ok (.iload_n 1, 1) := by decide +kernel
theorem dX2_init_36 : decode cX2_init 36 = .ok (.new 9, 3) := by decide +kernel
theorem dX2_init_39 : decode cX2_init 39 = .ok (.dup, 1) := by decide +kernel
theorem dX2_init_40 : decode cX2_init 40 = .ok (.invokespecial 24, 3) := by decide +kernel
theorem dX2_init_43 : decode cX2_init 43 = .ok (.aastore, 1) := by decide +kernel
theorem dX2_init_44 : decode cX2_init 44 = .ok (.iinc 1 1, 3) := by decide +kernel
theorem dX2_init_47 : decode cX2_init 47 = .ok (.goto (-22), 3) := by decide +kernel
theorem dX2_init_50 : decode cX2_init 50 = .ok (.return_, 1) := by decide +kernel
theorem dX2_remember_0 : decode cX2_remember 0 = .ok (.aload_n 0, 1) := by decide +kernel
theorem dX2_remember_1 : decode cX2_remember 1 = .ok (.getfield 11, 3) := by decide +kernel
theorem dX2_remember_4 : decode cX2_remember 4 = .ok (.aload_n 0, 1) := by decide +kernel
theorem dX2_remember_5 : decode cX2_remember 5 = .ok (.getfield 17, 3) := by decide +kernel
theorem dX2_remember_8 : decode cX2_remember 8 = .ok (.aload_n 0, 1) := by decide +kernel
theorem dX2_remember_9 : decode cX2_remember 9 = .ok (.getfield 21, 3) := by decide +kernel
theorem dX2_remember_12 : decode cX2_remember 12 = .ok (.iadd, 1) := by decide +kernel
theorem dX2_remember_13 : decode cX2_remember 13 = .ok (.bipush 8, 2) := by decide +kernel
theorem dX2_remember_15 : decode cX2_remember 15 = .ok (.irem, 1) := by decide +kernel
theorem dX2_remember_16 : decode cX2_remember 16 = .ok (.aaload, 1) := by decide +kernel
theorem dX2_remember_17 : decode cX2_remember 17 = .ok (.aload_n 1, 1) := by decide +kernel
theorem dX2_remember_18 : decode cX2_remember 18 = .ok (.invokevirtual 25, 3) := by decide +kernel
theorem dX2_remember_21 : decode cX2_remember 21 = .ok (.aload_n 0, 1) := by decide +kernel
theorem dX2_remember_22 : decode cX2_remember 22 = .ok (.getfield 21, 3) := by decide +kernel
theorem dX2_remember_25 : decode cX2_remember 25 = .ok (.bipush 8, 2) := by decide +kernel
theorem dX2_remember_27 : decode cX2_remember 27 = .ok (.if_icmp .ge 16, 3) := by decide +kernel
theorem dX2_remember_30 : decode cX2_remember 30 = .ok (.aload_n 0, 1) := by decide +kernel
theorem dX2_remember_31 : decode cX2_remember 31 = .ok (.dup, 1) := by decide +kernel
theorem dX2_remember_32 : decode cX2_remember 32 = .ok (.getfield 21, 3) := by decide +kernel
theorem dX2_remember_35 : decode cX2_remember 35 = .ok (.iconst 1, 1) := by decide +kernel
theorem dX2_remember_36 : decode cX2_remember 36 = .ok (.iadd, 1) := by decide +kernel
theorem dX2_remember_37 : decode cX2_remember 37 = .ok (.putfield 21, 3) := by decide +kernel
theorem dX2_remember_40 : decode cX2_remember 40 = .ok (.goto 16, 3) := by decide +kernel
theorem dX2_remember_43 : decode cX2_remember 43 = .ok (.aload_n 0, 1) := by decide +kernel
theorem dX2_remember_44 : decode cX2_remember 44 = .ok (.aload_n 0, 1) := by decide +kernel
theorem dX2_remember_45 : decode cX2_remember 45 = .ok (.getfield 17, 3) := by decide +kernel
theorem dX2_remember_48 : decode cX2_remember 48 = .ok (.iconst 1, 1) := by decide +kernel
theorem dX2_remember_49 : decode cX2_remember 49 = .ok (.iadd, 1) := by decide +kernel
theorem dX2_remember_50 : decode cX2_remember 50 = .ok (.bipush 8, 2) := by decide +kernel
theorem dX2_remember_52 : decode cX2_remember 52 = .ok (.irem, 1) := by decide +kernel
theorem dX2_remember_53 : decode cX2_remember 53 = .ok (.putfield 17, 3) := by decide +kernel
theorem dX2_remember_56 : decode cX2_remember 56 = .ok (.return_, 1) := by decide +kernel
theorem dX2_takeBack_0 : decode cX2_takeBack 0 = .ok (.aload_n 0, 1) := by decide +kernel
theorem dX2_takeBack_1 : decode cX2_takeBack 1 = .ok (.getfield 21, 3) := by decide +kernel
theorem dX2_takeBack_4 : decode cX2_takeBack 4 = .ok (.ifCond .le 34, 3) := by decide +kernel
theorem dX2_takeBack_7 : decode cX2_takeBack 7 = .ok (.aload_n 0, 1) := by decide +kernel
theorem dX2_takeBack_8 : decode cX2_takeBack 8 = .ok (.dup, 1) := by decide +kernel
theorem dX2_takeBack_9 : decode cX2_takeBack 9 = .ok (.getfield 21, 3) := by decide +kernel
theorem dX2_takeBack_12 : decode cX2_takeBack 12 = .ok (.iconst 1, 1) := by decide +kernel
theorem dX2_takeBack_13 : decode cX2_takeBack 13 = .ok (.isub, 1) := by decide +kernel
theorem dX2_takeBack_14 : decode cX2_takeBack 14 = .ok (.putfield 21, 3) := by decide +kernel
theorem dX2_takeBack_17 : decode cX2_takeBack 17 = .ok (.aload_n 1, 1) := by decide +kernel
theorem dX2_takeBack_18 : decode cX2_takeBack 18 = .ok (.aload_n 0, 1) := by decide +kernel
theorem dX2_takeBack_19 : decode cX2_takeBack 19 = .ok (.getfield 11, 3) := by decide +kernel
theorem dX2_takeBack_22 : decode cX2_takeBack 22 = .ok (.aload_n 0, 1) := by decide +kernel
theorem dX2_takeBack_23 : decode cX2_takeBack 23 = .ok (.getfield 17, 3) := by decide +kernel
theorem dX2_takeBack_26 : decode cX2_takeBack 26 = .ok (.aload_n 0, 1) := by decide +kernel
theorem dX2_takeBack_27 : decode cX2_takeBack 27 = .ok (.getfield 21, 3) := by decide +kernel
theorem dX2_takeBack_30 : decode cX2_takeBack 30 = .ok (.iadd, 1) := by decide +kernel
theorem dX2_takeBack_31 : decode cX2_takeBack 31 = .ok (.bipush 8, 2) := by decide +kernel
theorem dX2_takeBack_33 : decode cX2_takeBack 33 = .ok (.irem, 1) := by decide +kernel
theorem dX2_takeBack_34 : decode cX2_takeBack 34 = .ok (.aaload, 1) := by decide +kernel
theorem dX2_takeBack_35 : decode cX2_takeBack 35 = .ok (.invokevirtual 25, 3) := by decide +kernel
theorem dX2_takeBack_38 : decode cX2_takeBack 38 = .ok (.return_, 1) := by decide +kernel
theorem dX2_forget_0 : decode cX2_forget 0 = .ok (.aload_n 0, 1) := by decide +kernel
theorem dX2_forget_1 : decode cX2_forget 1 = .ok (.iconst 0, 1) := by decide +kernel
theorem dX2_forget_2 : decode cX2_forget 2 = .ok (.putfield 21, 3) := by decide +kernel
theorem dX2_forget_5 : decode cX2_forget 5 = .ok (.return_, 1) := by decide +kernel
theorem dX3_init_0 : decode cX3_init 0 = .ok (.aload_n 0, 1) := by decide +kernel
theorem dX3_init_1 : decode cX3_init 1 = .ok (.invokespecial 3, 3) := by decide +kernel
theorem dX3_init_4 : decode cX3_init 4 = .ok (.aload_n 0, 1) := by decide +kernel
theorem dX3_init_5 : decode cX3_init 5 = .ok (.iconst 0, 1) := by decide +kernel
theorem dX3_init_6 : decode cX3_init 6 = .ok (.putfield 9, 3) := by decide +kernel
theorem dX3_init_9 : decode cX3_init 9 = .ok (.aload_n 0, 1) := by decide +kernel
theorem dX3_init_10 : decode cX3_init 10 = .ok (.iconst 0, 1) := by decide +kernel
theorem dX3_init_11 : decode cX3_init 11 = .ok (.putfield 15, 3) := by decide +kernel
theorem dX3_init_14 : decode cX3_init 14 = .ok (.aload_n 0, 1) := by decide +kernel
theorem dX3_init_15 : decode cX3_init 15 = .ok (.iconst 0, 1) := by decide +kernel
theorem dX3_init_16 : decode cX3_init 16 = .ok (.putfield 19, 3) := by decide +kernel
theorem dX3_init_19 : decode cX3_init 19 = .ok (.aload_n 0, 1) := by decide +kernel
theorem dX3_init_20 : decode cX3_init 20 = .ok (.bipush 8, 2) := by decide +kernel
theorem dX3_init_22 : decode cX3_init 22 = .ok (.newarray .int, 2) := by decide +kernel
theorem dX3_init_24 : decode cX3_init 24 = .ok (.putfield 22, 3) := by decide +kernel
theorem dX3_init_27 : decode cX3_init 27 = .ok (.return_, 1) := by decide +kernel
theorem dX3_arrive_0 : decode cX3_arrive 0 = .ok (.aload_n 0, 1) := by decide +kernel
theorem dX3_arrive_1 : decode cX3_arrive 1 = .ok (.iconst 1, 1) := by decide +kernel
theorem dX3_arrive_2 : decode cX3_arrive 2 = .ok (.putfield 9, 3) := by decide +kernel
theorem dX3_arrive_5 : decode cX3_arrive 5 = .ok (.aload_n 0, 1) := by decide +kernel
theorem dX3_arrive_6 : decode cX3_arrive 6 = .ok (.iload_n 1, 1) := by decide +kernel
theorem dX3_arrive_7 : decode cX3_arrive 7 = .ok (.putfield 15, 3) := by decide +kernel
theorem dX3_arrive_10 : decode cX3_arrive 10 = .ok (.aload_n 0, 1) := by decide +kernel
theorem dX3_arrive_11 : decode cX3_arrive 11 = .ok (.iload_n 2, 1) := by decide +kernel
theorem dX3_arrive_12 : decode cX3_arrive 12 = .ok (.putfield 19, 3) := by decide +kernel
theorem dX3_arrive_15 : decode cX3_arrive 15 = .ok (.return_, 1) := by decide +kernel
theorem dX3_leave_0 : decode cX3_leave 0 = .ok (.aload_n 0, 1) := by decide +kernel
theorem dX3_leave_1 : decode cX3_leave 1 = .ok (.iconst 0, 1) := by decide +kernel
theorem dX3_leave_2 : decode cX3_leave 2 = .ok (.putfield 9, 3) := by decide +kernel
theorem dX3_leave_5 : decode cX3_leave 5 = .ok (.aload_n 0, 1) := by decide +kernel
theorem dX3_leave_6 : decode cX3_leave 6 = .ok (.getfield 22, 3) := by decide +kernel
theorem dX3_leave_9 : decode cX3_leave 9 = .ok (.iconst 0, 1) := by decide +kernel
theorem dX3_leave_10 : decode cX3_leave 10 = .ok (.invokestatic 26, 3) := by decide +kernel
theorem dX3_leave_13 : decode cX3_leave 13 = .ok (.return_, 1) := by decide +kernel
theorem dX3_copyFrom_0 : decode cX3_copyFrom 0 = .ok (.aload_n 0, 1) := by decide +kernel
theorem dX3_copyFrom_1 : decode cX3_copyFrom 1 = .ok (.aload_n 1, 1) := by decide +kernel
theorem dX3_copyFrom_2 : decode cX3_copyFrom 2 = .ok (.getfield 9, 3) := by decide +kernel
theorem dX3_copyFrom_5 : decode cX3_copyFrom 5 = .ok (.putfield 9, 3) := by decide +kernel
theorem dX3_copyFrom_8 : decode cX3_copyFrom 8 = .ok (.aload_n 0, 1) := by decide +kernel
theorem dX3_copyFrom_9 : decode cX3_copyFrom 9 = .ok (.aload_n 1, 1) := by decide +kernel
theorem dX3_copyFrom_10 : decode cX3_copyFrom 10 = .ok (.getfield 15, 3) := by decide +kernel
theorem dX3_copyFrom_13 : decode cX3_copyFrom 13 = .ok (.putfield 15, 3) := by decide +kernel
theorem dX3_copyFrom_16 : decode cX3_copyFrom 16 = .ok (.aload_n 0, 1) := by decide +kernel
theorem dX3_copyFrom_17 : decode cX3_copyFrom 17 = .ok (.aload_n 1, 1) := by decide +kernel
theorem dX3_copyFrom_18 : decode cX3_copyFrom 18 = .ok (.getfield 19, 3) := by decide +kernel
theorem dX3_copyFrom_21 : decode cX3_copyFrom 21 = .ok (.putfield 19, 3) := by decide +kernel
theorem dX3_copyFrom_24 : decode cX3_copyFrom 24 = .ok (.aload_n 1, 1) := by decide +kernel
theorem dX3_copyFrom_25 : decode cX3_copyFrom 25 = .ok (.getfield 22, 3) := by decide +kernel
theorem dX3_copyFrom_28 : decode cX3_copyFrom 28 = .ok (.iconst 0, 1) := by decide +kernel
theorem dX3_copyFrom_29 : decode cX3_copyFrom 29 = .ok (.aload_n 0, 1) := by decide +kernel
theorem dX3_copyFrom_30 : decode cX3_copyFrom 30 = .ok (.getfield 22, 3) := by decide +kernel
theorem dX3_copyFrom_33 : decode cX3_copyFrom 33 = .ok (.iconst 0, 1) := by decide +kernel
theorem dX3_copyFrom_34 : decode cX3_copyFrom 34 = .ok (.bipush 8, 2) := by decide +kernel
theorem dX3_copyFrom_36 : decode cX3_copyFrom 36 = .ok (.invokestatic 32, 3) := by decide +kernel
theorem dX3_copyFrom_39 : decode cX3_copyFrom 39 = .ok (.return_, 1) := by decide +kernel
theorem dX3_votes_0 : decode cX3_votes 0 = .ok (.iconst 0, 1) := by decide +kernel
theorem dX3_votes_1 : decode cX3_votes 1 = .ok (.istore_n 2, 1) := by decide +kernel
theorem dX3_votes_2 : decode cX3_votes 2 = .ok (.iconst 0, 1) := by decide +kernel
theorem dX3_votes_3 : decode cX3_votes 3 = .ok (.istore_n 3, 1) := by decide +kernel
theorem dX3_votes_4 : decode cX3_votes 4 = .ok (.iload_n 3, 1) := by decide +kernel
theorem dX3_votes_5 : decode cX3_votes 5 = .ok (.bipush 8, 2) := by decide +kernel
theorem dX3_votes_7 : decode cX3_votes 7 = .ok (.if_icmp .ge 22, 3) := by decide +kernel
theorem dX3_votes_10 : decode cX3_votes 10 = .ok (.aload_n 0, 1) := by decide +kernel
theorem dX3_votes_11 : decode cX3_votes 11 = .ok (.getfield 22, 3) := by decide +kernel
theorem dX3_votes_14 : decode cX3_votes 14 = .ok (.iload_n 3, 1) := by decide +kernel
theorem dX3_votes_15 : decode cX3_votes 15 = .ok (.iaload, 1) := by decide +kernel
theorem dX3_votes_16 : decode cX3_votes 16 = .ok (.iload_n 1, 1) := by decide +kernel
theorem dX3_votes_17 : decode cX3_votes 17 = .ok (.if_icmp .ne 6, 3) := by decide +kernel
theorem dX3_votes_20 : decode cX3_votes 20 = .ok (.iinc 2 1, 3) := by decide +kernel
theorem dX3_votes_23 : decode cX3_votes 23 = .ok (.iinc 3 1, 3) := by decide +kernel
theorem dX3_votes_26 : decode cX3_votes 26 = .ok (.goto (-22), 3) := by decide +kernel
theorem dX3_votes_29 : decode cX3_votes 29 = .ok (.iload_n 2, 1) := by decide +kernel
theorem dX3_votes_30 : decode cX3_votes 30 = .ok (.ireturn, 1) := by decide +kernel
theorem dX4_init_0 : decode cX4_init 0 = .ok (.aload_n 0, 1) := by decide +kernel
theorem dX4_init_1 : decode cX4_init 1 = .ok (.invokespecial 3, 3) := by decide +kernel
theorem dX4_init_4 : decode cX4_init 4 = .ok (.aload_n 0, 1) := by decide +kernel
theorem dX4_init_5 : decode cX4_init 5 = .ok (.sipush 600, 3) := by decide +kernel
theorem dX4_init_8 : decode cX4_init 8 = .ok (.newarray .byte, 2) := by decide +kernel
theorem dX4_init_10 : decode cX4_init 10 = .ok (.putfield 9, 3) := by decide +kernel
theorem dX4_init_13 : decode cX4_init 13 = .ok (.aload_n 0, 1) := by decide +kernel
theorem dX4_init_14 : decode cX4_init 14 = .ok (.iconst 0, 1) := by decide +kernel
theorem dX4_init_15 : decode cX4_init 15 = .ok (.putfield 15, 3) := by decide +kernel
theorem dX4_init_18 : decode cX4_init 18 = .ok (.aload_n 0, 1) := by decide +kernel
theorem dX4_init_19 : decode cX4_init 19 = .ok (.iconst 0, 1) := by decide +kernel
theorem dX4_init_20 : decode cX4_init 20 = .ok (.putfield 19, 3) := by decide +kernel
theorem dX4_init_23 : decode cX4_init 23 = .ok (.aload_n 0, 1) := by decide +kernel
theorem dX4_init_24 : decode cX4_init 24 = .ok (.iconst 0, 1) := by decide +kernel
theorem dX4_init_25 : decode cX4_init 25 = .ok (.putfield 22, 3) := by decide +kernel
theorem dX4_init_28 : decode cX4_init 28 = .ok (.aload_n 0, 1) := by decide +kernel
theorem dX4_init_29 : decode cX4_init 29 = .ok (.iconst 0, 1) := by decide +kernel
theorem dX4_init_30 : decode cX4_init 30 = .ok (.putfield 25, 3) := by decide +kernel
theorem dX4_init_33 : decode cX4_init 33 = .ok (.aload_n 0, 1) := by decide +kernel
theorem dX4_init_34 : decode cX4_init 34 = .ok (.iconst 0, 1) := by decide +kernel
theorem dX4_init_35 : decode cX4_init 35 = .ok (.putfield 28, 3) := by decide +kernel
theorem dX4_init_38 : decode cX4_init 38 = .ok (.return_, 1) := by decide +kernel
theorem dX4_putFour_0 : decode cX4_putFour 0 = .ok (.bipush 24, 2) := by decide +kernel
theorem dX4_putFour_2 : decode cX4_putFour 2 = .ok (.istore_n 2, 1) := by decide +kernel
theorem dX4_putFour_3 : decode cX4_putFour 3 = .ok (.iload_n 2, 1) := by decide +kernel
theorem dX4_putFour_4 : decode cX4_putFour 4 = .ok (.ifCond .lt 42, 3) := by decide +kernel
theorem dX4_putFour_7 : decode cX4_putFour 7 = .ok (.aload_n 0, 1) := by decide +kernel
theorem dX4_putFour_8 : decode cX4_putFour 8 = .ok (.getfield 15, 3) := by decide +kernel
theorem dX4_putFour_11 : decode cX4_putFour 11 = .ok (.sipush 600, 3) := by decide +kernel
theorem dX4_putFour_14 : decode cX4_putFour 14 = .ok (.if_icmp .ge 32, 3) := by decide +kernel
theorem dX4_putFour_17 : decode cX4_putFour 17 = .ok (.aload_n 0, 1) := by decide +kernel
theorem dX4_putFour_18 : decode cX4_putFour 18 = .ok (.getfield 9, 3) := by decide +kernel
theorem dX4_putFour_21 : decode cX4_putFour 21 = .ok (.aload_n 0, 1) := by decide +kernel
theorem dX4_putFour_22 : decode cX4_putFour 22 = .ok (.getfield 15, 3) := by decide +kernel
theorem dX4_putFour_25 : decode cX4_putFour 25 = .ok (.iload_n 1, 1) := by decide +kernel
theorem dX4_putFour_26 : decode cX4_putFour 26 = .ok (.iload_n 2, 1) := by decide +kernel
theorem dX4_putFour_27 : decode cX4_putFour 27 = .ok (.ishr, 1) := by decide +kernel
theorem dX4_putFour_28 : decode cX4_putFour 28 = .ok (.i2b, 1) := by decide +kernel
theorem dX4_putFour_29 : decode cX4_putFour 29 = .ok (.bastore, 1) := by decide +kernel
theorem dX4_putFour_30 : decode cX4_putFour 30 = .ok (.aload_n 0, 1) := by decide +kernel
theorem dX4_putFour_31 : decode cX4_putFour 31 = .ok (.dup, 1) := by decide +kernel
theorem dX4_putFour_32 : decode cX4_putFour 32 = .ok (.getfield 15, 3) := by decide +kernel
theorem dX4_putFour_35 : decode cX4_putFour 35 = .ok (.iconst 1, 1) := by decide +kernel
theorem dX4_putFour_36 : decode cX4_putFour 36 = .ok (.iadd, 1) := by decide +kernel
theorem dX4_putFour_37 : decode cX4_putFour 37 = .ok (.putfield 15, 3) := by decide +kernel
theorem dX4_putFour_40 : decode cX4_putFour 40 = .ok (.iinc 2 (-8), 3) := by decide +kernel
theorem dX4_putFour_43 : decode cX4_putFour 43 = .ok (.goto (-40), 3) := by decide +kernel
theorem dX4_putFour_46 : decode cX4_putFour 46 = .ok (.return_, 1) := by decide +kernel
theorem dX4_next_0 : decode cX4_next 0 = .ok (.aload_n 0, 1) := by decide +kernel
theorem dX4_next_1 : decode cX4_next 1 = .ok (.getfield 19, 3) := by decide +kernel
theorem dX4_next_4 : decode cX4_next 4 = .ok (.aload_n 0, 1) := by decide +kernel
theorem dX4_next_5 : decode cX4_next 5 = .ok (.getfield 15, 3) := by decide +kernel
theorem dX4_next_8 : decode cX4_next 8 = .ok (.if_icmp .ge 44, 3) := by decide +kernel
theorem dX4_next_11 : decode cX4_next 11 = .ok (.aload_n 0, 1) := by decide +kernel
theorem dX4_next_12 : decode cX4_next 12 = .ok (.getfield 9, 3) := by decide +kernel
theorem dX4_next_15 : decode cX4_next 15 = .ok (.aload_n 0, 1) := by decide +kernel
theorem dX4_next_16 : decode cX4_next 16 = .ok (.getfield 19, 3) := by decide +kernel
theorem dX4_next_19 : decode cX4_next 19 = .ok (.baload, 1) := by decide +kernel
theorem dX4_next_20 : decode cX4_next 20 = .ok (.bipush 32, 2) := by decide +kernel
theorem dX4_next_22 : decode cX4_next 22 = .ok (.if_icmp .eq 17, 3) := by decide +kernel
theorem dX4_next_25 : decode cX4_next 25 = .ok (.aload_n 0, 1) := by decide +kernel
theorem dX4_next_26 : decode cX4_next 26 = .ok (.getfield 9, 3) := by decide +kernel
theorem dX4_next_29 : decode cX4_next 29 = .ok (.aload_n 0, 1) := by decide +kernel
theorem dX4_next_30 : decode cX4_next 30 = .ok (.getfield 19, 3) := by decide +kernel
theorem dX4_next_33 : decode cX4_next 33 = .ok (.baload, 1) := by decide +kernel
theorem dX4_next_34 : decode cX4_next 34 = .ok (.bipush 10, 2) := by decide +kernel
theorem dX4_next_36 : decode cX4_next 36 = .ok (.if_icmp .ne 16, 3) := by decide +kernel
theorem dX4_next_39 : decode cX4_next 39 = .ok (.aload_n 0, 1) := by decide +kernel
theorem dX4_next_40 : decode cX4_next 40 = .ok (.dup, 1) := by decide +kernel
theorem dX4_next_41 : decode cX4_next 41 = .ok (.getfield 19, 3) := by decide +kernel
theorem dX4_next_44 : decode cX4_next 44 = .ok (.iconst 1, 1) := by decide +kernel
theorem dX4_next_45 : decode cX4_next 45 = .ok (.iadd, 1) := by decide +kernel
theorem dX4_next_46 : decode cX4_next 46 = .ok (.putfield 19, 3) := by decide +kernel
theorem dX4_next_49 : decode cX4_next 49 = .ok (.goto (-49), 3) := by decide +kernel
theorem dX4_next_52 : decode cX4_next 52 = .ok (.aload_n 0, 1) := by decide +kernel
theorem dX4_next_53 : decode cX4_next 53 = .ok (.aload_n 0, 1) := by decide +kernel
theorem dX4_next_54 : decode cX4_next 54 = .ok (.getfield 19, 3) := by decide +kernel
theorem dX4_next_57 : decode cX4_next 57 = .ok (.putfield 25, 3) := by decide +kernel
theorem dX4_next_60 : decode cX4_next 60 = .ok (.aload_n 0, 1) := by decide +kernel
theorem dX4_next_61 : decode cX4_next 61 = .ok (.iconst 0, 1) := by decide +kernel
theorem dX4_next_62 : decode cX4_next 62 = .ok (.putfield 22, 3) := by decide +kernel
theorem dX4_next_65 : decode cX4_next 65 = .ok (.aload_n 0, 1) := by decide +kernel
theorem dX4_next_66 : decode cX4_next 66 = .ok (.getfield 19, 3) := by decide +kernel
theorem dX4_next_69 : decode cX4_next 69 = .ok (.aload_n 0, 1) := by decide +kernel
theorem dX4_next_70 : decode cX4_next 70 = .ok (.getfield 15, 3) := by decide +kernel
theorem dX4_next_73 : decode cX4_next 73 = .ok (.if_icmp .ge 30, 3) := by decide +kernel
theorem dX4_next_76 : decode cX4_next 76 = .ok (.aload_n 0, 1) := by decide +kernel
theorem dX4_next_77 : decode cX4_next 77 = .ok (.aload_n 0, 1) := by decide +kernel
theorem dX4_next_78 : decode cX4_next 78 = .ok (.aload_n 0, 1) := by decide +kernel
theorem dX4_next_79 : decode cX4_next 79 = .ok (.getfield 9, 3) := by decide +kernel
theorem dX4_next_82 : decode cX4_next 82 = .ok (.aload_n 0, 1) := by decide +kernel
theorem dX4_next_83 : decode cX4_next 83 = .ok (.getfield 19, 3) := by decide +kernel
theorem dX4_next_86 : decode cX4_next 86 = .ok (.baload, 1) := by decide +kernel
theorem dX4_next_87 : decode cX4_next 87 = .ok (.invokevirtual 31, 3) := by decide +kernel
theorem dX4_next_90 : decode cX4_next 90 = .ok (.putfield 22, 3) := by decide +kernel
theorem dX4_next_93 : decode cX4_next 93 = .ok (.aload_n 0, 1) := by decide +kernel
theorem dX4_next_94 : decode cX4_next 94 = .ok (.dup, 1) := by decide +kernel
theorem dX4_next_95 : decode cX4_next 95 = .ok (.getfield 19, 3) := by decide +kernel
theorem dX4_next_98 : decode cX4_next 98 = .ok (.iconst 1, 1) := by decide +kernel
theorem dX4_next_99 : decode cX4_next 99 = .ok (.iadd, 1) := by decide +kernel
theorem dX4_next_100 : decode cX4_next 100 = .ok (.putfield 19, 3) := by decide +kernel
theorem dX4_next_103 : decode cX4_next 103 = .ok (.aload_n 0, 1) := by decide +kernel
theorem dX4_next_104 : decode cX4_next 104 = .ok (.getfield 22, 3) := by decide +kernel
theorem dX4_next_107 : decode cX4_next 107 = .ok (.iconst 1, 1) := by decide +kernel
theorem dX4_next_108 : decode cX4_next 108 = .ok (.if_icmp .eq 11, 3) := by decide +kernel
theorem dX4_next_111 : decode cX4_next 111 = .ok (.aload_n 0, 1) := by decide +kernel
theorem dX4_next_112 : decode cX4_next 112 = .ok (.getfield 22, 3) := by decide +kernel
theorem dX4_next_115 : decode cX4_next 115 = .ok (.iconst 2, 1) := by decide +kernel
theorem dX4_next_116 : decode cX4_next 116 = .ok (.if_icmp .ne 47, 3) := by decide +kernel
theorem dX4_next_119 : decode cX4_next 119 = .ok (.aload_n 0, 1) := by decide +kernel
theorem dX4_next_120 : decode cX4_next 120 = .ok (.getfield 19, 3) := by decide +kernel
theorem dX4_next_123 : decode cX4_next 123 = .ok (.aload_n 0, 1) := by decide +kernel
theorem dX4_next_124 : decode cX4_next 124 = .ok (.getfield 15, 3) := by decide +kernel
theorem dX4_next_127 : decode cX4_next 127 = .ok (.if_icmp .ge 36, 3) := by decide +kernel
theorem dX4_next_130 : decode cX4_next 130 = .ok (.aload_n 0, 1) := by decide +kernel
theorem dX4_next_131 : decode cX4_next 131 = .ok (.aload_n 0, 1) := by decide +kernel
theorem dX4_next_132 : decode cX4_next 132 = .ok (.getfield 9, 3) := by decide +kernel
theorem dX4_next_135 : decode cX4_next 135 = .ok (.aload_n 0, 1) := by decide +kernel
theorem dX4_next_136 : decode cX4_next 136 = .ok (.getfield 19, 3) := by decide +kernel
theorem dX4_next_139 : decode cX4_next 139 = .ok (.baload, 1) := by decide +kernel
theorem dX4_next_140 : decode cX4_next 140 = .ok (.invokevirtual 31, 3) := by decide +kernel
theorem dX4_next_143 : decode cX4_next 143 = .ok (.aload_n 0, 1) := by decide +kernel
theorem dX4_next_144 : decode cX4_next 144 = .ok (.getfield 22, 3) := by decide +kernel
theorem dX4_next_147 : decode cX4_next 147 = .ok (.if_icmp .ne 16, 3) := by decide +kernel
theorem dX4_next_150 : decode cX4_next 150 = .ok (.aload_n 0, 1) := by decide +kernel
theorem dX4_next_151 : decode cX4_next 151 = .ok (.dup, 1) := by decide +kernel
theorem dX4_next_152 : decode cX4_next 152 = .ok (.getfield 19, 3) := by decide +kernel
theorem dX4_next_155 : decode cX4_next 155 = .ok (.iconst 1, 1) := by decide +kernel
theorem dX4_next_156 : decode cX4_next 156 = .ok (.iadd, 1) := by decide +kernel
theorem dX4_next_157 : decode cX4_next 157 = .ok (.putfield 19, 3) := by decide +kernel
theorem dX4_next_160 : decode cX4_next 160 = .ok (.goto (-41), 3) := by decide +kernel
theorem dX4_next_163 : decode cX4_next 163 = .ok (.aload_n 0, 1) := by decide +kernel
theorem dX4_next_164 : decode cX4_next 164 = .ok (.getfield 22, 3) := by decide +kernel
theorem dX4_next_167 : decode cX4_next 167 = .ok (.iconst 2, 1) := by decide +kernel
theorem dX4_next_168 : decode cX4_next 168 = .ok (.if_icmp .ne 7, 3) := by decide +kernel
theorem dX4_next_171 : decode cX4_next 171 = .ok (.aload_n 0, 1) := by decide +kernel
theorem dX4_next_172 : decode cX4_next 172 = .ok (.invokevirtual 35, 3) := by decide +kernel
theorem dX4_next_175 : decode cX4_next 175 = .ok (.return_, 1) := by decide +kernel
theorem dX4_readNumber_0 : decode cX4_readNumber 0 = .ok (.aload_n 0, 1) := by decide +kernel
theorem dX4_readNumber_1 : decode cX4_readNumber 1 = .ok (.getfield 19, 3) := by decide +kernel
theorem dX4_readNumber_4 : decode cX4_readNumber 4 = .ok (.aload_n 0, 1) := by decide +kernel
theorem dX4_readNumber_5 : decode cX4_readNumber 5 = .ok (.getfield 25, 3) := by decide +kernel
theorem dX4_readNumber_8 : decode cX4_readNumber 8 = .ok (.isub, 1) := by decide +kernel
theorem dX4_readNumber_9 : decode cX4_readNumber 9 = .ok (.iconst 3, 1) := by decide +kernel
theorem dX4_readNumber_10 : decode cX4_readNumber 10 = .ok (.if_icmp .le 10, 3) := by decide +kernel
theorem dX4_readNumber_13 : decode cX4_readNumber 13 = .ok (.aload_n 0, 1) := by decide +kernel
theorem dX4_readNumber_14 : decode cX4_readNumber 14 = .ok (.bipush 6, 2) := by decide +kernel
theorem dX4_readNumber_16 : decode cX4_readNumber 16 = .ok (.putfield 22, 3) := by decide +kernel
theorem dX4_readNumber_19 : decode cX4_readNumber 19 = .ok (.return_, 1) := by decide +kernel
theorem dX4_readNumber_20 : decode cX4_readNumber 20 = .ok (.aload_n 0, 1) := by decide +kernel
theorem dX4_readNumber_21 : decode cX4_readNumber 21 = .ok (.iconst 0, 1) := by decide +kernel
theorem dX4_readNumber_22 : decode cX4_readNumber 22 = .ok (.putfield 28, 3) := by decide +kernel
theorem dX4_readNumber_25 : decode cX4_readNumber 25 = .ok (.aload_n 0, 1) := by decide +kernel
theorem dX4_readNumber_26 : decode cX4_readNumber 26 = .ok (.getfield 25, 3) := by decide +kernel
theorem dX4_readNumber_29 : decode cX4_readNumber 29 = .ok (.istore_n 1, 1) := by decide +kernel
theorem dX4_readNumber_30 : decode cX4_readNumber 30 = .ok (.iload_n 1, 1) := by decide +kernel
theorem dX4_readNumber_31 : decode cX4_readNumber 31 = .ok (.aload_n 0, 1) := by decide +kernel
theorem dX4_readNumber_32 : decode cX4_readNumber 32 = .ok (.getfield 19, 3) := by decide +kernel
theorem dX4_readNumber_35 : decode cX4_readNumber 35 = .ok (.if_icmp .ge 30, 3) := by decide +kernel
theorem dX4_readNumber_38 : decode cX4_readNumber 38 = .ok (.aload_n 0, 1) := by decide +kernel
theorem dX4_readNumber_39 : decode cX4_readNumber 39 = .ok (.aload_n 0, 1) := by decide +kernel
theorem dX4_readNumber_40 : decode cX4_readNumber 40 = .ok (.getfield 28, 3) := by decide +kernel
theorem dX4_readNumber_43 : decode cX4_readNumber 43 = .ok (.bipush 10, 2) := by decide +kernel
theorem dX4_readNumber_45 : decode cX4_readNumber 45 = .ok (.imul, 1) := by decide +kernel
theorem dX4_readNumber_46 : decode cX4_readNumber 46 = .ok (.aload_n 0, 1) := by decide +kernel
theorem dX4_readNumber_47 : decode cX4_readNumber 47 = .ok (.getfield 9, 3) := by decide +kernel
theorem dX4_readNumber_50 : decode cX4_readNumber 50 = .ok (.iload_n 1, 1) := by decide +kernel
theorem dX4_readNumber_51 : decode cX4_readNumber 51 = .ok (.baload, 1) := by decide +kernel
theorem dX4_readNumber_52 : decode cX4_readNumber 52 = .ok (.iadd, 1) := by decide +kernel
theorem dX4_readNumber_53 : decode cX4_readNumber 53 = .ok (.bipush 48, 2) := by decide +kernel
theorem dX4_readNumber_55 : decode cX4_readNumber 55 = .ok (.isub, 1) := by decide +kernel
theorem dX4_readNumber_56 : decode cX4_readNumber 56 = .ok (.putfield 28, 3) := by decide +kernel
theorem dX4_readNumber_59 : decode cX4_readNumber 59 = .ok (.iinc 1 1, 3) := by decide +kernel
theorem dX4_readNumber_62 : decode cX4_readNumber 62 = .ok (.goto (-32), 3) := by decide +kernel
theorem dX4_readNumber_65 : decode cX4_readNumber 65 = .ok (.return_, 1) := by decide +kernel
theorem dX4_kindOf_0 : decode cX4_kindOf 0 = .ok (.iload_n 1, 1) := by decide +kernel
theorem dX4_kindOf_1 : decode cX4_kindOf 1 = .ok (.bipush 97, 2) := by decide +kernel
theorem dX4_kindOf_3 : decode cX4_kindOf 3 = .ok (.if_icmp .lt 11, 3) := by decide +kernel
theorem dX4_kindOf_6 : decode cX4_kindOf 6 = .ok (.iload_n 1, 1) := by decide +kernel
theorem dX4_kindOf_7 : decode cX4_kindOf 7 = .ok (.bipush 122, 2) := by decide +kernel
theorem dX4_kindOf_9 : decode cX4_kindOf 9 = .ok (.if_icmp .gt 5, 3) := by decide +kernel
theorem dX4_kindOf_12 : decode cX4_kindOf 12 = .ok (.iconst 1, 1) := by decide +kernel
theorem dX4_kindOf_13 : decode cX4_kindOf 13 = .ok (.ireturn, 1) := by decide +kernel
theorem dX4_kindOf_14 : decode cX4_kindOf 14 = .ok (.iload_n 1, 1) := by decide +kernel
theorem dX4_kindOf_15 : decode cX4_kindOf 15 = .ok (.bipush 48, 2) := by decide +kernel
theorem dX4_kindOf_17 : decode cX4_kindOf 17 = .ok (.if_icmp .lt 11, 3) := by decide +kernel
theorem dX4_kindOf_20 : decode cX4_kindOf 20 = .ok (.iload_n 1, 1) := by decide +kernel
theorem dX4_kindOf_21 : decode cX4_kindOf 21 = .ok (.bipush 57, 2) := by decide +kernel
theorem dX4_kindOf_23 : decode cX4_kindOf 23 = .ok (.if_icmp .gt 5, 3) := by decide +kernel
theorem dX4_kindOf_26 : decode cX4_kindOf 26 = .ok (.iconst 2, 1) := by decide +kernel
theorem dX4_kindOf_27 : decode cX4_kindOf 27 = .ok (.ireturn, 1) := by decide +kernel
theorem dX4_kindOf_28 : decode cX4_kindOf 28 = .ok (.iload_n 1, 1) := by decide +kernel
theorem dX4_kindOf_29 : decode cX4_kindOf 29 = .ok (.bipush 40, 2) := by decide +kernel
theorem dX4_kindOf_31 : decode cX4_kindOf 31 = .ok (.if_icmp .ne 5, 3) := by decide +kernel
theorem dX4_kindOf_34 : decode cX4_kindOf 34 = .ok (.iconst 3, 1) := by decide +kernel
theorem dX4_kindOf_35 : decode cX4_kindOf 35 = .ok (.ireturn, 1) := by decide +kernel
theorem dX4_kindOf_36 : decode cX4_kindOf 36 = .ok (.iload_n 1, 1) := by decide +kernel
theorem dX4_kindOf_37 : decode cX4_kindOf 37 = .ok (.bipush 41, 2) := by decide +kernel
theorem dX4_kindOf_39 : decode cX4_kindOf 39 = .ok (.if_icmp .ne 5, 3) := by decide +kernel
theorem dX4_kindOf_42 : decode cX4_kindOf 42 = .ok (.iconst 4, 1) := by decide +kernel
theorem dX4_kindOf_43 : decode cX4_kindOf 43 = .ok (.ireturn, 1) := by decide +kernel
theorem dX4_kindOf_44 : decode cX4_kindOf 44 = .ok (.iload_n 1, 1) := by decide +kernel
theorem dX4_kindOf_45 : decode cX4_kindOf 45 = .ok (.bipush 59, 2) := by decide +kernel
theorem dX4_kindOf_47 : decode cX4_kindOf 47 = .ok (.if_icmp .ne 7, 3) := by decide +kernel
theorem dX4_kindOf_50 : decode cX4_kindOf 50 = .ok (.iconst 5, 1) := by decide +kernel
theorem dX4_kindOf_51 : decode cX4_kindOf 51 = .ok (.goto 5, 3) := by decide +kernel
theorem dX4_kindOf_54 : decode cX4_kindOf 54 = .ok (.bipush 6, 2) := by decide +kernel
theorem dX4_kindOf_56 : decode cX4_kindOf 56 = .ok (.ireturn, 1) := by decide +kernel
theorem dX4_isWord_0 : decode cX4_isWord 0 = .ok (.aload_n 0, 1) := by decide +kernel
theorem dX4_isWord_1 : decode cX4_isWord 1 = .ok (.getfield 22, 3) := by decide +kernel
theorem dX4_isWord_4 : decode cX4_isWord 4 = .ok (.iconst 1, 1) := by decide +kernel
theorem dX4_isWord_5 : decode cX4_isWord 5 = .ok (.if_icmp .ne 19, 3) := by decide +kernel
theorem dX4_isWord_8 : decode cX4_isWord 8 = .ok (.aload_n 1, 1) := by decide +kernel
theorem dX4_isWord_9 : decode cX4_isWord 9 = .ok (.invokevirtual 38, 3) := by decide +kernel
theorem dX4_isWord_12 : decode cX4_isWord 12 = .ok (.aload_n 0, 1) := by decide +kernel
theorem dX4_isWord_13 : decode cX4_isWord 13 = .ok (.getfield 19, 3) := by decide +kernel
theorem dX4_isWord_16 : decode cX4_isWord 16 = .ok (.aload_n 0, 1) := by decide +kernel
theorem dX4_isWord_17 : decode cX4_isWord 17 = .ok (.getfield 25, 3) := by decide +kernel
theorem dX4_isWord_20 : decode cX4_isWord 20 = .ok (.isub, 1) := by decide +kernel
theorem dX4_isWord_21 : decode cX4_isWord 21 = .ok (.if_icmp .eq 5, 3) := by decide +kernel
theorem dX4_isWord_24 : decode cX4_isWord 24 = .ok (.iconst 0, 1) := by decide +kernel
theorem dX4_isWord_25 : decode cX4_isWord 25 = .ok (.ireturn, 1) := by decide +kernel
theorem dX4_isWord_26 : decode cX4_isWord 26 = .ok (.iconst 0, 1) := by decide +kernel
theorem dX4_isWord_27 : decode cX4_isWord 27 = .ok (.istore_n 2, 1) := by decide +kernel
theorem dX4_isWord_28 : decode cX4_isWord 28 = .ok (.iload_n 2, 1) := by decide +kernel
theorem dX4_isWord_29 : decode cX4_isWord 29 = .ok (.aload_n 1, 1) := by decide +kernel
theorem dX4_isWord_30 : decode cX4_isWord 30 = .ok (.invokevirtual 38, 3) := by decide +kernel
theorem dX4_isWord_33 : decode cX4_isWord 33 = .ok (.if_icmp .ge 30, 3) := by decide +kernel
theorem dX4_isWord_36 : decode cX4_isWord 36 = .ok (.aload_n 0, 1) := by decide +kernel
theorem dX4_isWord_37 : decode cX4_isWord 37 = .ok (.getfield 9, 3) := by decide +kernel
theorem dX4_isWord_40 : decode cX4_isWord 40 = .ok (.aload_n 0, 1) := by decide +kernel
theorem dX4_isWord_41 : decode cX4_isWord 41 = .ok (.getfield 25, 3) := by decide +kernel
theorem dX4_isWord_44 : decode cX4_isWord 44 = .ok (.iload_n 2, 1) := by decide +kernel
theorem dX4_isWord_45 : decode cX4_isWord 45 = .ok (.iadd, 1) := by decide +kernel
theorem dX4_isWord_46 : decode cX4_isWord 46 = .ok (.baload, 1) := by decide +kernel
theorem dX4_isWord_47 : decode cX4_isWord 47 = .ok (.aload_n 1, 1) := by decide +kernel
theorem dX4_isWord_48 : decode cX4_isWord 48 = .ok (.iload_n 2, 1) := by decide +kernel
theorem dX4_isWord_49 : decode cX4_isWord 49 = .ok (.invokevirtual 43, 3) := by decide +kernel
theorem dX4_isWord_52 : decode cX4_isWord 52 = .ok (.if_icmp .eq 5, 3) := by decide +kernel
theorem dX4_isWord_55 : decode cX4_isWord 55 = .ok (.iconst 0, 1) := by decide +kernel
theorem dX4_isWord_56 : decode cX4_isWord 56 = .ok (.ireturn, 1) := by decide +kernel
theorem dX4_isWord_57 : decode cX4_isWord 57 = .ok (.iinc 2 1, 3) := by decide +kernel
theorem dX4_isWord_60 : decode cX4_isWord 60 = .ok (.goto (-32), 3) := by decide +kernel
theorem dX4_isWord_63 : decode cX4_isWord 63 = .ok (.iconst 1, 1) := by decide +kernel
theorem dX4_isWord_64 : decode cX4_isWord 64 = .ok (.ireturn, 1) := by decide +kernel
theorem dX5_init_0 : decode cX5_init 0 = .ok (.aload_n 0, 1) := by decide +kernel
theorem dX5_init_1 : decode cX5_init 1 = .ok (.invokespecial 3, 3) := by decide +kernel
theorem dX5_init_4 : decode cX5_init 4 = .ok (.aload_n 0, 1) := by decide +kernel
theorem dX5_init_5 : decode cX5_init 5 = .ok (.bipush 59, 2) := by decide +kernel
theorem dX5_init_7 : decode cX5_init 7 = .ok (.newarray .byte, 2) := by decide +kernel
theorem dX5_init_9 : decode cX5_init 9 = .ok (.putfield 11, 3) := by decide +kernel
theorem dX5_init_12 : decode cX5_init 12 = .ok (.aload_n 0, 1) := by decide +kernel
theorem dX5_init_13 : decode cX5_init 13 = .ok (.iconst 0, 1) := by decide +kernel
theorem dX5_init_14 : decode cX5_init 14 = .ok (.putfield 15, 3) := by decide +kernel
theorem dX5_init_17 : decode cX5_init 17 = .ok (.return_, 1) := by decide +kernel
theorem dX5_write_0 : decode cX5_write 0 = .ok (.aload_n 0, 1) := by decide +kernel
theorem dX5_write_1 : decode cX5_write 1 = .ok (.iconst 0, 1) := by decide +kernel
theorem dX5_write_2 : decode cX5_write 2 = .ok (.putfield 15, 3) := by decide +kernel
theorem dX5_write_5 : decode cX5_write 5 = .ok (.iconst 0, 1) := by decide +kernel
theorem dX5_write_6 : decode cX5_write 6 = .ok (.istore_n 2, 1) := by decide +kernel
theorem dX5_write_7 : decode cX5_write 7 = .ok (.iload_n 2, 1) := by decide +kernel
theorem dX5_write_8 : decode cX5_write 8 = .ok (.aload_n 1, 1) := by decide +kernel
theorem dX5_write_9 : decode cX5_write 9 = .ok (.getfield 19, 3) := by decide +kernel
theorem dX5_write_12 : decode cX5_write 12 = .ok (.if_icmp .ge 55, 3) := by decide +kernel
theorem dX5_write_15 : decode cX5_write 15 = .ok (.iload_n 2, 1) := by decide +kernel
theorem dX5_write_16 : decode cX5_write 16 = .ok (.ifCond .le 9, 3) := by decide +kernel
theorem dX5_write_19 : decode cX5_write 19 = .ok (.aload_n 0, 1) := by decide +kernel
theorem dX5_write_20 : decode cX5_write 20 = .ok (.bipush 32, 2) := by decide +kernel
theorem dX5_write_22 : decode cX5_write 22 = .ok (.invokevirtual 24, 3) := by decide +kernel
theorem dX5_write_25 : decode cX5_write 25 = .ok (.aload_n 0, 1) := by decide +kernel
theorem dX5_write_26 : decode cX5_write 26 = .ok (.bipush 48, 2) := by decide +kernel
theorem dX5_write_28 : decode cX5_write 28 = .ok (.aload_n 1, 1) := by decide +kernel
theorem dX5_write_29 : decode cX5_write 29 = .ok (.getfield 28, 3) := by decide +kernel
theorem dX5_write_32 : decode cX5_write 32 = .ok (.iload_n 2, 1) := by decide +kernel
theorem dX5_write_33 : decode cX5_write 33 = .ok (.iaload, 1) := by decide +kernel
theorem dX5_write_34 : decode cX5_write 34 = .ok (.iadd, 1) := by decide +kernel
theorem dX5_write_35 : decode cX5_write 35 = .ok (.invokevirtual 24, 3) := by decide +kernel
theorem dX5_write_38 : decode cX5_write 38 = .ok (.aload_n 0, 1) := by decide +kernel
theorem dX5_write_39 : decode cX5_write 39 = .ok (.bipush 99, 2) := by decide +kernel
theorem dX5_write_41 : decode cX5_write 41 = .ok (.aload_n 1, 1) := by decide +kernel
theorem dX5_write_42 : decode cX5_write 42 = .ok (.iload_n 2, 1) := by decide +kernel
theorem dX5_write_43 : decode cX5_write 43 = .ok (.invokevirtual 32, 3) := by decide +kernel
theorem dX5_write_46 : decode cX5_write 46 = .ok (.invokevirtual 36, 3) := by decide +kernel
theorem dX5_write_49 : decode cX5_write 49 = .ok (.aload_n 0, 1) := by decide +kernel
theorem dX5_write_50 : decode cX5_write 50 = .ok (.bipush 111, 2) := by decide +kernel
theorem dX5_write_52 : decode cX5_write 52 = .ok (.aload_n 1, 1) := by decide +kernel
theorem dX5_write_53 : decode cX5_write 53 = .ok (.getfield 40, 3) := by decide +kernel
theorem dX5_write_56 : decode cX5_write 56 = .ok (.iload_n 2, 1) := by decide +kernel
theorem dX5_write_57 : decode cX5_write 57 = .ok (.iaload, 1) := by decide +kernel
theorem dX5_write_58 : decode cX5_write 58 = .ok (.invokevirtual 36, 3) := by decide +kernel
theorem dX5_write_61 : decode cX5_write 61 = .ok (.iinc 2 1, 3) := by decide +kernel
theorem dX5_write_64 : decode cX5_write 64 = .ok (.goto (-57), 3) := by decide +kernel
theorem dX5_write_67 : decode cX5_write 67 = .ok (.return_, 1) := by decide +kernel
theorem dX5_putCat_0 : decode cX5_putCat 0 = .ok (.iload_n 2, 1) := by decide +kernel
theorem dX5_putCat_1 : decode cX5_putCat 1 = .ok (.iconst (-1), 1) := by decide +kernel
theorem dX5_putCat_2 : decode cX5_putCat 2 = .ok (.if_icmp .eq 16, 3) := by decide +kernel
theorem dX5_putCat_5 : decode cX5_putCat 5 = .ok (.aload_n 0, 1) := by decide +kernel
theorem dX5_putCat_6 : decode cX5_putCat 6 = .ok (.iload_n 1, 1) := by decide +kernel
theorem dX5_putCat_7 : decode cX5_putCat 7 = .ok (.invokevirtual 24, 3) := by decide +kernel
theorem dX5_putCat_10 : decode cX5_putCat 10 = .ok (.aload_n 0, 1) := by decide +kernel
theorem dX5_putCat_11 : decode cX5_putCat 11 = .ok (.bipush 48, 2) := by decide +kernel
theorem dX5_putCat_13 : decode cX5_putCat 13 = .ok (.iload_n 2, 1) := by decide +kernel
theorem dX5_putCat_14 : decode cX5_putCat 14 = .ok (.iadd, 1) := by decide +kernel
theorem dX5_putCat_15 : decode cX5_putCat 15 = .ok (.invokevirtual 24, 3) := by decide +kernel
theorem dX5_putCat_18 : decode cX5_putCat 18 = .ok (.return_, 1) := by decide +kernel
theorem dX5_put_0 : decode cX5_put 0 = .ok (.aload_n 0, 1) := by decide +kernel
theorem dX5_put_1 : decode cX5_put 1 = .ok (.getfield 15, 3) := by decide +kernel
theorem dX5_put_4 : decode cX5_put 4 = .ok (.bipush 59, 2) := by decide +kernel
theorem dX5_put_6 : decode cX5_put 6 = .ok (.if_icmp .ge 24, 3) := by decide +kernel
theorem dX5_put_9 : decode cX5_put 9 = .ok (.aload_n 0, 1) := by decide +kernel
theorem dX5_put_10 : decode cX5_put 10 = .ok (.getfield 11, 3) := by decide +kernel
theorem dX5_put_13 : decode cX5_put 13 = .ok (.aload_n 0, 1) := by decide +kernel
theorem dX5_put_14 : decode cX5_put 14 = .ok (.getfield 15, 3) := by decide +kernel
theorem dX5_put_17 : decode cX5_put 17 = .ok (.iload_n 1, 1) := by decide +kernel
theorem dX5_put_18 : decode cX5_put 18 = .ok (.i2b, 1) := by decide +kernel
theorem dX5_put_19 : decode cX5_put 19 = .ok (.bastore, 1) := by decide +kernel
theorem dX5_put_20 : decode cX5_put 20 = .ok (.aload_n 0, 1) := by decide +kernel
theorem dX5_put_21 : decode cX5_put 21 = .ok (.dup, 1) := by decide +kernel
theorem dX5_put_22 : decode cX5_put 22 = .ok (.getfield 15, 3) := by decide +kernel
theorem dX5_put_25 : decode cX5_put 25 = .ok (.iconst 1, 1) := by decide +kernel
theorem dX5_put_26 : decode cX5_put 26 = .ok (.iadd, 1) := by decide +kernel
theorem dX5_put_27 : decode cX5_put 27 = .ok (.putfield 15, 3) := by decide +kernel
theorem dX5_put_30 : decode cX5_put 30 = .ok (.return_, 1) := by decide +kernel
theorem dX6_init_0 : decode cX6_init 0 = .ok (.aload_n 0, 1) := by decide +kernel
theorem dX6_init_1 : decode cX6_init 1 = .ok (.invokespecial 3, 3) := by decide +kernel
theorem dX6_init_4 : decode cX6_init 4 = .ok (.aload_n 0, 1) := by decide +kernel
theorem dX6_init_5 : decode cX6_init 5 = .ok (.iconst 0, 1) := by decide +kernel
theorem dX6_init_6 : decode cX6_init 6 = .ok (.putfield 9, 3) := by decide +kernel
theorem dX6_init_9 : decode cX6_init 9 = .ok (.aload_n 0, 1) := by decide +kernel
theorem dX6_init_10 : decode cX6_init 10 = .ok (.bipush 10, 2) := by decide +kernel
theorem dX6_init_12 : decode cX6_init 12 = .ok (.newarray .int, 2) := by decide +kernel
theorem dX6_init_14 : decode cX6_init 14 = .ok (.putfield 15, 3) := by decide +kernel
theorem dX6_init_17 : decode cX6_init 17 = .ok (.aload_n 0, 1) := by decide +kernel
theorem dX6_init_18 : decode cX6_init 18 = .ok (.bipush 10, 2) := by decide +kernel
theorem dX6_init_20 : decode cX6_init 20 = .ok (.newarray .int, 2) := by decide +kernel
theorem dX6_init_22 : decode cX6_init 22 = .ok (.putfield 19, 3) := by decide +kernel
theorem dX6_init_25 : decode cX6_init 25 = .ok (.aload_n 0, 1) := by decide +kernel
theorem dX6_init_26 : decode cX6_init 26 = .ok (.iconst 0, 1) := by decide +kernel
theorem dX6_init_27 : decode cX6_init 27 = .ok (.putfield 22, 3) := by decide +kernel
theorem dX6_init_30 : decode cX6_init 30 = .ok (.aload_n 0, 1) := by decide +kernel
theorem dX6_init_31 : decode cX6_init 31 = .ok (.bipush 20, 2) := by decide +kernel
theorem dX6_init_33 : decode cX6_init 33 = .ok (.newarray .int, 2) := by decide +kernel
theorem dX6_init_35 : decode cX6_init 35 = .ok (.putfield 25, 3) := by decide +kernel
theorem dX6_init_38 : decode cX6_init 38 = .ok (.aload_n 0, 1) := by decide +kernel
theorem dX6_init_39 : decode cX6_init 39 = .ok (.bipush 20, 2) := by decide +kernel
theorem dX6_init_41 : decode cX6_init 41 = .ok (.newarray .int, 2) := by decide +kernel
theorem dX6_init_43 : decode cX6_init 43 = .ok (.putfield 28, 3) := by decide +kernel
theorem dX6_init_46 : decode cX6_init 46 = .ok (.aload_n 0, 1) := by decide +kernel
theorem dX6_init_47 : decode cX6_init 47 = .ok (.bipush 20, 2) := by decide +kernel
theorem dX6_init_49 : decode cX6_init 49 = .ok (.newarray .int, 2) := by decide +kernel
theorem dX6_init_51 : decode cX6_init 51 = .ok (.putfield 31, 3) := by decide +kernel
theorem dX6_init_54 : decode cX6_init 54 = .ok (.aload_n 0, 1) := by decide +kernel
theorem dX6_init_55 : decode cX6_init 55 = .ok (.iconst 0, 1) := by decide +kernel
theorem dX6_init_56 : decode cX6_init 56 = .ok (.putfield 34, 3) := by decide +kernel
theorem dX6_init_59 : decode cX6_init 59 = .ok (.aload_n 0, 1) := by decide +kernel
theorem dX6_init_60 : decode cX6_init 60 = .ok (.bipush 8, 2) := by decide +kernel
theorem dX6_init_62 : decode cX6_init 62 = .ok (.newarray .int, 2) := by decide +kernel
theorem dX6_init_64 : decode cX6_init 64 = .ok (.putfield 37, 3) := by decide +kernel
theorem dX6_init_67 : decode cX6_init 67 = .ok (.aload_n 0, 1) := by decide +kernel
theorem dX6_init_68 : decode cX6_init 68 = .ok (.bipush 8, 2) := by decide +kernel
theorem dX6_init_70 : decode cX6_init 70 = .ok (.newarray .int, 2) := by decide +kernel
theorem dX6_init_72 : decode cX6_init 72 = .ok (.putfield 40, 3) := by decide +kernel
theorem dX6_init_75 : decode cX6_init 75 = .ok (.aload_n 0, 1) := by decide +kernel
theorem dX6_init_76 : decode cX6_init 76 = .ok (.bipush 8, 2) := by decide +kernel
theorem dX6_init_78 : decode cX6_init 78 = .ok (.newarray .int, 2) := by decide +kernel
theorem dX6_init_80 : decode cX6_init 80 = .ok (.putfield 43, 3) := by decide +kernel
theorem dX6_init_83 : decode cX6_init 83 = .ok (.aload_n 0, 1) := by decide +kernel
theorem dX6_init_84 : decode cX6_init 84 = .ok (.bipush 8, 2) := by decide +kernel
theorem dX6_init_86 : decode cX6_init 86 = .ok (.newarray .int, 2) := by decide +kernel
theorem dX6_init_88 : decode cX6_init 88 = .ok (.putfield 46, 3) := by decide +kernel
theorem dX6_init_91 : decode cX6_init 91 = .ok (.aload_n 0, 1) := by decide +kernel
theorem dX6_init_92 : decode cX6_init 92 = .ok (.bipush 64, 2) := by decide +kernel
theorem dX6_init_94 : decode cX6_init 94 = .ok (.newarray .int, 2) := by decide +kernel
theorem dX6_init_96 : decode cX6_init 96 = .ok (.putfield 49, 3) := by decide +kernel
theorem dX6_init_99 : decode cX6_init 99 = .ok (.aload_n 0, 1) := by decide +kernel
theorem dX6_init_100 : decode cX6_init 100 = .ok (.iconst 0, 1) := by decide +kernel
theorem dX6_init_101 : decode cX6_init 101 = .ok (.putfield 52, 3) := by decide +kernel
theorem dX6_init_104 : decode cX6_init 104 = .ok (.aload_n 0, 1) := by decide +kernel
theorem dX6_init_105 : decode cX6_init 105 = .ok (.iconst 0, 1) := by decide +kernel
theorem dX6_init_106 : decode cX6_init 106 = .ok (.putfield 55, 3) := by decide +kernel
theorem dX6_init_109 : decode cX6_init 109 = .ok (.aload_n 0, 1) := by decide +kernel
theorem dX6_init_110 : decode cX6_init 110 = .ok (.iconst 0, 1) := by decide +kernel
theorem dX6_init_111 : decode cX6_init 111 = .ok (.putfield 58, 3) := by decide +kernel
theorem dX6_init_114 : decode cX6_init 114 = .ok (.aload_n 0, 1) := by decide +kernel
theorem dX6_init_115 : decode cX6_init 115 = .ok (.new 61, 3) := by decide +kernel
theorem dX6_init_118 : decode cX6_init 118 = .ok (.dup, 1) := by decide +kernel
theorem dX6_init_119 : decode cX6_init 119 = .ok (.invokespecial 63, 3) := by decide +kernel
theorem dX6_init_122 : decode cX6_init 122 = .ok (.putfield 64, 3) := by decide +kernel
theorem dX6_init_125 : decode cX6_init 125 = .ok (.return_, 1) := by decide +kernel
theorem dX6_clear_0 : decode cX6_clear 0 = .ok (.aload_n 0, 1) := by decide +kernel
theorem dX6_clear_1 : decode cX6_clear 1 = .ok (.iconst 0, 1) := by decide +kernel
theorem dX6_clear_2 : decode cX6_clear 2 = .ok (.putfield 9, 3) := by decide +kernel
theorem dX6_clear_5 : decode cX6_clear 5 = .ok (.aload_n 0, 1) := by decide +kernel
theorem dX6_clear_6 : decode cX6_clear 6 = .ok (.iconst 0, 1) := by decide +kernel
theorem dX6_clear_7 : decode cX6_clear 7 = .ok (.putfield 22, 3) := by decide +kernel
theorem dX6_clear_10 : decode cX6_clear 10 = .ok (.aload_n 0, 1) := by decide +kernel
theorem dX6_clear_11 : decode cX6_clear 11 = .ok (.iconst 0, 1) := by decide +kernel
theorem dX6_clear_12 : decode cX6_clear 12 = .ok (.putfield 34, 3) := by decide +kernel
theorem dX6_clear_15 : decode cX6_clear 15 = .ok (.aload_n 0, 1) := by decide +kernel
theorem dX6_clear_16 : decode cX6_clear 16 = .ok (.getfield 49, 3) := by decide +kernel
theorem dX6_clear_19 : decode cX6_clear 19 = .ok (.iconst 0, 1) := by decide +kernel
theorem dX6_clear_20 : decode cX6_clear 20 = .ok (.invokestatic 68, 3) := by decide +kernel
theorem dX6_clear_23 : decode cX6_clear 23 = .ok (.aload_n 0, 1) := by decide +kernel
theorem dX6_clear_24 : decode cX6_clear 24 = .ok (.iconst 0, 1) := by decide +kernel
theorem dX6_clear_25 : decode cX6_clear 25 = .ok (.putfield 52, 3) := by decide +kernel
theorem dX6_clear_28 : decode cX6_clear 28 = .ok (.aload_n 0, 1) := by decide +kernel
theorem dX6_clear_29 : decode cX6_clear 29 = .ok (.iconst 0, 1) := by decide +kernel
theorem dX6_clear_30 : decode cX6_clear 30 = .ok (.putfield 55, 3) := by decide +kernel
theorem dX6_clear_33 : decode cX6_clear 33 = .ok (.aload_n 0, 1) := by decide +kernel
theorem dX6_clear_34 : decode cX6_clear 34 = .ok (.iconst 0, 1) := by decide +kernel
theorem dX6_clear_35 : decode cX6_clear 35 = .ok (.putfield 58, 3) := by decide +kernel
theorem dX6_clear_38 : decode cX6_clear 38 = .ok (.aload_n 0, 1) := by decide +kernel
theorem dX6_clear_39 : decode cX6_clear 39 = .ok (.getfield 64, 3) := by decide +kernel
theorem dX6_clear_42 : decode cX6_clear 42 = .ok (.invokevirtual 74, 3) := by decide +kernel
theorem dX6_clear_45 : decode cX6_clear 45 = .ok (.return_, 1) := by decide +kernel
theorem dX6_copyFrom_0 : decode cX6_copyFrom 0 = .ok (.aload_n 0, 1) := by decide +kernel
theorem dX6_copyFrom_1 : decode cX6_copyFrom 1 = .ok (.aload_n 1, 1) := by decide +kernel
theorem dX6_copyFrom_2 : decode cX6_copyFrom 2 = .ok (.getfield 9, 3) := by decide +kernel
theorem dX6_copyFrom_5 : decode cX6_copyFrom 5 = .ok (.putfield 9, 3) := by decide +kernel
theorem dX6_copyFrom_8 : decode cX6_copyFrom 8 = .ok (.aload_n 1, 1) := by decide +kernel
theorem dX6_copyFrom_9 : decode cX6_copyFrom 9 = .ok (.getfield 15, 3) := by decide +kernel
theorem dX6_copyFrom_12 : decode cX6_copyFrom 12 = .ok (.iconst 0, 1) := by decide +kernel
theorem dX6_copyFrom_13 : decode cX6_copyFrom 13 = .ok (.aload_n 0, 1) := by decide +kernel
theorem dX6_copyFrom_14 : decode cX6_copyFrom 14 = .ok (.getfield 15, 3) := by decide +kernel
theorem dX6_copyFrom_17 : decode cX6_copyFrom 17 = .ok (.iconst 0, 1) := by decide +kernel
theorem dX6_copyFrom_18 : decode cX6_copyFrom 18 = .ok (.bipush 10, 2) := by decide +kernel
theorem dX6_copyFrom_20 : decode cX6_copyFrom 20 = .ok (.invokestatic 77, 3) := by decide +kernel
theorem dX6_copyFrom_23 : decode cX6_copyFrom 23 = .ok (.aload_n 1, 1) := by decide +kernel
theorem dX6_copyFrom_24 : decode cX6_copyFrom 24 = .ok (.getfield 19, 3) := by decide +kernel
theorem dX6_copyFrom_27 : decode cX6_copyFrom 27 = .ok (.iconst 0, 1) := by decide +kernel
theorem dX6_copyFrom_28 : decode cX6_copyFrom 28 = .ok (.aload_n 0, 1) := by decide +kernel
theorem dX6_copyFrom_29 : decode cX6_copyFrom 29 = .ok (.getfield 19, 3) := by decide +kernel
theorem dX6_copyFrom_32 : decode cX6_copyFrom 32 = .ok (.iconst 0, 1) := by decide +kernel
theorem dX6_copyFrom_33 : decode cX6_copyFrom 33 = .ok (.bipush 10, 2) := by decide +kernel
theorem dX6_copyFrom_35 : decode cX6_copyFrom 35 = .ok (.invokestatic 77, 3) := by decide +kernel
theorem dX6_copyFrom_38 : decode cX6_copyFrom 38 = .ok (.aload_n 0, 1) := by decide +kernel
theorem dX6_copyFrom_39 : decode cX6_copyFrom 39 = .ok (.aload_n 1, 1) := by decide +kernel
theorem dX6_copyFrom_40 : decode cX6_copyFrom 40 = .ok (.getfield 22, 3) := by decide +kernel
theorem dX6_copyFrom_43 : decode cX6_copyFrom 43 = .ok (.putfield 22, 3) := by decide +kernel
theorem dX6_copyFrom_46 : decode cX6_copyFrom 46 = .ok (.aload_n 1, 1) := by decide +kernel
theorem dX6_copyFrom_47 : decode cX6_copyFrom 47 = .ok (.getfield 25, 3) := by decide +kernel
theorem dX6_copyFrom_50 : decode cX6_copyFrom 50 = .ok (.iconst 0, 1) := by decide +kernel
theorem dX6_copyFrom_51 : decode cX6_copyFrom 51 = .ok (.aload_n 0, 1) := by decide +kernel
theorem dX6_copyFrom_52 : decode cX6_copyFrom 52 = .ok (.getfield 25, 3) := by decide +kernel
theorem dX6_copyFrom_55 : decode cX6_copyFrom 55 = .ok (.iconst 0, 1) := by decide +kernel
theorem dX6_copyFrom_56 : decode cX6_copyFrom 56 = .ok (.bipush 20, 2) := by decide +kernel
theorem dX6_copyFrom_58 : decode cX6_copyFrom 58 = .ok (.invokestatic 77, 3) := by decide +kernel
theorem dX6_copyFrom_61 : decode cX6_copyFrom 61 = .ok (.aload_n 1, 1) := by decide +kernel
theorem dX6_copyFrom_62 : decode cX6_copyFrom 62 = .ok (.getfield 28, 3) := by decide +kernel
theorem dX6_copyFrom_65 : decode cX6_copyFrom 65 = .ok (.iconst 0, 1) := by decide +kernel
theorem dX6_copyFrom_66 : decode cX6_copyFrom 66 = .ok (.aload_n 0, 1) := by decide +kernel
theorem dX6_copyFrom_67 : decode cX6_copyFrom 67 = .ok (.getfield 28, 3) := by decide +kernel
theorem dX6_copyFrom_70 : decode cX6_copyFrom 70 = .ok (.iconst 0, 1) := by decide +kernel
theorem dX6_copyFrom_71 : decode cX6_copyFrom 71 = .ok (.bipush 20, 2) := by decide +kernel
theorem dX6_copyFrom_73 : decode cX6_copyFrom 73 = .ok (.invokestatic 77, 3) := by decide +kernel
theorem dX6_copyFrom_76 : decode cX6_copyFrom 76 = .ok (.aload_n 1, 1) := by decide +kernel
theorem dX6_copyFrom_77 : decode cX6_copyFrom 77 = .ok (.getfield 31, 3) := by decide +kernel
theorem dX6_copyFrom_80 : decode cX6_copyFrom 80 = .ok (.iconst 0, 1) := by decide +kernel
theorem dX6_copyFrom_81 : decode cX6_copyFrom 81 = .ok (.aload_n 0, 1) := by decide +kernel
theorem dX6_copyFrom_82 : decode cX6_copyFrom 82 = .ok (.getfield 31, 3) := by decide +kernel
theorem dX6_copyFrom_85 : decode cX6_copyFrom 85 = .ok (.iconst 0, 1) := by decide +kernel
theorem dX6_copyFrom_86 : decode cX6_copyFrom 86 = .ok (.bipush 20, 2) := by decide +kernel
theorem dX6_copyFrom_88 : decode cX6_copyFrom 88 = .ok (.invokestatic 77, 3) := by decide +kernel
theorem dX6_copyFrom_91 : decode cX6_copyFrom 91 = .ok (.aload_n 0, 1) := by decide +kernel
theorem dX6_copyFrom_92 : decode cX6_copyFrom 92 = .ok (.aload_n 1, 1) := by decide +kernel
theorem dX6_copyFrom_93 : decode cX6_copyFrom 93 = .ok (.getfield 34, 3) := by decide +kernel
theorem dX6_copyFrom_96 : decode cX6_copyFrom 96 = .ok (.putfield 34, 3) := by decide +kernel
theorem dX6_copyFrom_99 : decode cX6_copyFrom 99 = .ok (.aload_n 1, 1) := by decide +kernel
theorem dX6_copyFrom_100 : decode cX6_copyFrom 100 = .ok (.getfield 37, 3) := by decide +kernel
theorem dX6_copyFrom_103 : decode cX6_copyFrom 103 = .ok (.iconst 0, 1) := by decide +kernel
theorem dX6_copyFrom_104 : decode cX6_copyFrom 104 = .ok (.aload_n 0, 1) := by decide +kernel
theorem dX6_copyFrom_105 : decode cX6_copyFrom 105 = .ok (.getfield 37, 3) := by decide +kernel
theorem dX6_copyFrom_108 : decode cX6_copyFrom 108 = .ok (.iconst 0, 1) := by decide +kernel
theorem dX6_copyFrom_109 : decode cX6_copyFrom 109 = .ok (.bipush 8, 2) := by decide +kernel
theorem dX6_copyFrom_111 : decode cX6_copyFrom 111 = .ok (.invokestatic 77, 3) := by decide +kernel
theorem dX6_copyFrom_114 : decode cX6_copyFrom 114 = .ok (.aload_n 1, 1) := by decide +kernel
theorem dX6_copyFrom_115 : decode cX6_copyFrom 115 = .ok (.getfield 40, 3) := by decide +kernel
theorem dX6_copyFrom_118 : decode cX6_copyFrom 118 = .ok (.iconst 0, 1) := by decide +kernel
theorem dX6_copyFrom_119 : decode cX6_copyFrom 119 = .ok (.aload_n 0, 1) := by decide +kernel
theorem dX6_copyFrom_120 : decode cX6_copyFrom 120 = .ok (.getfield 40, 3) := by decide +kernel
theorem dX6_copyFrom_123 : decode cX6_copyFrom 123 = .ok (.iconst 0, 1) := by decide +kernel
theorem dX6_copyFrom_124 : decode cX6_copyFrom 124 = .ok (.bipush 8, 2) := by decide +kernel
theorem dX6_copyFrom_126 : decode cX6_copyFrom 126 = .ok (.invokestatic 77, 3) := by decide +kernel
theorem dX6_copyFrom_129 : decode cX6_copyFrom 129 = .ok (.aload_n 1, 1) := by decide +kernel
theorem dX6_copyFrom_130 : decode cX6_copyFrom 130 = .ok (.getfield 43, 3) := by decide +kernel
theorem dX6_copyFrom_133 : decode cX6_copyFrom 133 = .ok (.iconst 0, 1) := by decide +kernel
theorem dX6_copyFrom_134 : decode cX6_copyFrom 134 = .ok (.aload_n 0, 1) := by decide +kernel
theorem dX6_copyFrom_135 : decode cX6_copyFrom 135 = .ok (.getfield 43, 3) := by decide +kernel
theorem dX6_copyFrom_138 : decode cX6_copyFrom 138 = .ok (.iconst 0, 1) := by decide +kernel
theorem dX6_copyFrom_139 : decode cX6_copyFrom 139 = .ok (.bipush 8, 2) := by decide +kernel
theorem dX6_copyFrom_141 : decode cX6_copyFrom 141 = .ok (.invokestatic 77, 3) := by decide +kernel
theorem dX6_copyFrom_144 : decode cX6_copyFrom 144 = .ok (.aload_n 1, 1) := by decide +kernel
theorem dX6_copyFrom_145 : decode cX6_copyFrom 145 = .ok (.getfield 46, 3) := by decide +kernel
theorem dX6_copyFrom_148 : decode cX6_copyFrom 148 = .ok (.iconst 0, 1) := by decide +kernel
theorem dX6_copyFrom_149 : decode cX6_copyFrom 149 = .ok (.aload_n 0, 1) := by decide +kernel
theorem dX6_copyFrom_150 : decode cX6_copyFrom 150 = .ok (.getfield 46, 3) := by decide +kernel
theorem dX6_copyFrom_153 : decode cX6_copyFrom 153 = .ok (.iconst 0, 1) := by decide +kernel
theorem dX6_copyFrom_154 : decode cX6_copyFrom 154 = .ok (.bipush 8, 2) := by decide +kernel
theorem dX6_copyFrom_156 : decode cX6_copyFrom 156 = .ok (.invokestatic 77, 3) := by decide +kernel
theorem dX6_copyFrom_159 : decode cX6_copyFrom 159 = .ok (.aload_n 1, 1) := by decide +kernel
theorem dX6_copyFrom_160 : decode cX6_copyFrom 160 = .ok (.getfield 49, 3) := by decide +kernel
theorem dX6_copyFrom_163 : decode cX6_copyFrom 163 = .ok (.iconst 0, 1) := by decide +kernel
theorem dX6_copyFrom_164 : decode cX6_copyFrom 164 = .ok (.aload_n 0, 1) := by decide +kernel
theorem dX6_copyFrom_165 : decode cX6_copyFrom 165 = .ok (.getfield 49, 3) := by decide +kernel
theorem dX6_copyFrom_168 : decode cX6_copyFrom 168 = .ok (.iconst 0, 1) := by decide +kernel
theorem dX6_copyFrom_169 : decode cX6_copyFrom 169 = .ok (.bipush 64, 2) := by decide +kernel
theorem dX6_copyFrom_171 : decode cX6_copyFrom 171 = .ok (.invokestatic 77, 3) := by decide +kernel
theorem dX6_copyFrom_174 : decode cX6_copyFrom 174 = .ok (.aload_n 0, 1) := by decide +kernel
theorem dX6_copyFrom_175 : decode cX6_copyFrom 175 = .ok (.aload_n 1, 1) := by decide +kernel
theorem dX6_copyFrom_176 : decode cX6_copyFrom 176 = .ok (.getfield 52, 3) := by decide +kernel
theorem dX6_copyFrom_179 : decode cX6_copyFrom 179 = .ok (.putfield 52, 3) := by decide +kernel
theorem dX6_copyFrom_182 : decode cX6_copyFrom 182 = .ok (.aload_n 0, 1) := by decide +kernel
theorem dX6_copyFrom_183 : decode cX6_copyFrom 183 = .ok (.aload_n 1, 1) := by decide +kernel
theorem dX6_copyFrom_184 : decode cX6_copyFrom 184 = .ok (.getfield 55, 3) := by decide +kernel
theorem dX6_copyFrom_187 : decode cX6_copyFrom 187 = .ok (.putfield 55, 3) := by decide +kernel
theorem dX6_copyFrom_190 : decode cX6_copyFrom 190 = .ok (.aload_n 0, 1) := by decide +kernel
theorem dX6_copyFrom_191 : decode cX6_copyFrom 191 = .ok (.aload_n 1, 1) := by decide +kernel
theorem dX6_copyFrom_192 : decode cX6_copyFrom 192 = .ok (.getfield 58, 3) := by decide +kernel
theorem dX6_copyFrom_195 : decode cX6_copyFrom 195 = .ok (.putfield 58, 3) := by decide +kernel
theorem dX6_copyFrom_198 : decode cX6_copyFrom 198 = .ok (.aload_n 0, 1) := by decide +kernel
theorem dX6_copyFrom_199 : decode cX6_copyFrom 199 = .ok (.getfield 64, 3) := by decide +kernel
theorem dX6_copyFrom_202 : decode cX6_copyFrom 202 = .ok (.aload_n 1, 1) := by decide +kernel
theorem dX6_copyFrom_203 : decode cX6_copyFrom 203 = .ok (.getfield 64, 3) := by decide +kernel
theorem dX6_copyFrom_206 : decode cX6_copyFrom 206 = .ok (.invokevirtual 83, 3) := by decide +kernel
theorem dX6_copyFrom_209 : decode cX6_copyFrom 209 = .ok (.return_, 1) := by decide +kernel
theorem dX6_hasChimney_0 : decode cX6_hasChimney 0 = .ok (.iload_n 1, 1) := by decide +kernel
theorem dX6_hasChimney_1 : decode cX6_hasChimney 1 = .ok (.ifCond .lt 15, 3) := by decide +kernel
theorem dX6_hasChimney_4 : decode cX6_hasChimney 4 = .ok (.iload_n 1, 1) := by decide +kernel
theorem dX6_hasChimney_5 : decode cX6_hasChimney 5 = .ok (.aload_n 0, 1) := by decide +kernel
theorem dX6_hasChimney_6 : decode cX6_hasChimney 6 = .ok (.getfield 9, 3) := by decide +kernel
theorem dX6_hasChimney_9 : decode cX6_hasChimney 9 = .ok (.if_icmp .ge 7, 3) := by decide +kernel
theorem dX6_hasChimney_12 : decode cX6_hasChimney 12 = .ok (.iconst 1, 1) := by decide +kernel
theorem dX6_hasChimney_13 : decode cX6_hasChimney 13 = .ok (.goto 4, 3) := by decide +kernel
theorem dX6_hasChimney_16 : decode cX6_hasChimney 16 = .ok (.iconst 0, 1) := by decide +kernel
theorem dX6_hasChimney_17 : decode cX6_hasChimney 17 = .ok (.ireturn, 1) := by decide +kernel
theorem dX6_hasGutter_0 : decode cX6_hasGutter 0 = .ok (.iload_n 1, 1) := by decide +kernel
theorem dX6_hasGutter_1 : decode cX6_hasGutter 1 = .ok (.ifCond .lt 15, 3) := by decide +kernel
theorem dX6_hasGutter_4 : decode cX6_hasGutter 4 = .ok (.iload_n 1, 1) := by decide +kernel
theorem dX6_hasGutter_5 : decode cX6_hasGutter 5 = .ok (.aload_n 0, 1) := by decide +kernel
theorem dX6_hasGutter_6 : decode cX6_hasGutter 6 = .ok (.getfield 22, 3) := by decide +kernel
theorem dX6_hasGutter_9 : decode cX6_hasGutter 9 = .ok (.if_icmp .ge 7, 3) := by decide +kernel
theorem dX6_hasGutter_12 : decode cX6_hasGutter 12 = .ok (.iconst 1, 1) := by decide +kernel
theorem dX6_hasGutter_13 : decode cX6_hasGutter 13 = .ok (.goto 4, 3) := by decide +kernel
theorem dX6_hasGutter_16 : decode cX6_hasGutter 16 = .ok (.iconst 0, 1) := by decide +kernel
theorem dX6_hasGutter_17 : decode cX6_hasGutter 17 = .ok (.ireturn, 1) := by decide +kernel
theorem dX6_hasCat_0 : decode cX6_hasCat 0 = .ok (.iload_n 1, 1) := by decide +kernel
theorem dX6_hasCat_1 : decode cX6_hasCat 1 = .ok (.ifCond .lt 15, 3) := by decide +kernel
theorem dX6_hasCat_4 : decode cX6_hasCat 4 = .ok (.iload_n 1, 1) := by decide +kernel
theorem dX6_hasCat_5 : decode cX6_hasCat 5 = .ok (.aload_n 0, 1) := by decide +kernel
theorem dX6_hasCat_6 : decode cX6_hasCat 6 = .ok (.getfield 34, 3) := by decide +kernel
theorem dX6_hasCat_9 : decode cX6_hasCat 9 = .ok (.if_icmp .ge 7, 3) := by decide +kernel
theorem dX6_hasCat_12 : decode cX6_hasCat 12 = .ok (.iconst 1, 1) := by decide +kernel
theorem dX6_hasCat_13 : decode cX6_hasCat 13 = .ok (.goto 4, 3) := by decide +kernel
theorem dX6_hasCat_16 : decode cX6_hasCat 16 = .ok (.iconst 0, 1) := by decide +kernel
theorem dX6_hasCat_17 : decode cX6_hasCat 17 = .ok (.ireturn, 1) := by decide +kernel
theorem dX6_sitter_0 : decode cX6_sitter 0 = .ok (.iconst 0, 1) := by decide +kernel
theorem dX6_sitter_1 : decode cX6_sitter 1 = .ok (.istore_n 2, 1) := by decide +kernel
theorem dX6_sitter_2 : decode cX6_sitter 2 = .ok (.iload_n 2, 1) := by decide +kernel
theorem dX6_sitter_3 : decode cX6_sitter 3 = .ok (.aload_n 0, 1) := by decide +kernel
theorem dX6_sitter_4 : decode cX6_sitter 4 = .ok (.getfield 34, 3) := by decide +kernel
theorem dX6_sitter_7 : decode cX6_sitter 7 = .ok (.if_icmp .ge 21, 3) := by decide +kernel
theorem dX6_sitter_10 : decode cX6_sitter 10 = .ok (.aload_n 0, 1) := by decide +kernel
theorem dX6_sitter_11 : decode cX6_sitter 11 = .ok (.getfield 46, 3) := by decide +kernel
theorem dX6_sitter_14 : decode cX6_sitter 14 = .ok (.iload_n 2, 1) := by decide +kernel
theorem dX6_sitter_15 : decode cX6_sitter 15 = .ok (.iaload, 1) := by decide +kernel
theorem dX6_sitter_16 : decode cX6_sitter 16 = .ok (.iload_n 1, 1) := by decide +kernel
theorem dX6_sitter_17 : decode cX6_sitter 17 = .ok (.if_icmp .ne 5, 3) := by decide +kernel
theorem dX6_sitter_20 : decode cX6_sitter 20 = .ok (.iload_n 2, 1) := by decide +kernel
theorem dX6_sitter_21 : decode cX6_sitter 21 = .ok (.ireturn, 1) := by decide +kernel
theorem dX6_sitter_22 : decode cX6_sitter 22 = .ok (.iinc 2 1, 3) := by decide +kernel
theorem dX6_sitter_25 : decode cX6_sitter 25 = .ok (.goto (-23), 3) := by decide +kernel
theorem dX6_sitter_28 : decode cX6_sitter 28 = .ok (.iconst (-1), 1) := by decide +kernel
theorem dX6_sitter_29 : decode cX6_sitter 29 = .ok (.ireturn, 1) := by decide +kernel
theorem dX6_warmestSeat_0 : decode cX6_warmestSeat 0 = .ok (.iconst (-1), 1) := by decide +kernel
theorem dX6_warmestSeat_1 : decode cX6_warmestSeat 1 = .ok (.istore_n 1, 1) := by decide +kernel
theorem dX6_warmestSeat_2 : decode cX6_warmestSeat 2 = .ok (.iconst (-1), 1) := by decide +kernel
theorem dX6_warmestSeat_3 : decode cX6_warmestSeat 3 = .ok (.istore_n 2, 1) := by decide +kernel
theorem dX6_warmestSeat_4 : decode cX6_warmestSeat 4 = .ok (.iconst 0, 1) := by decide +kernel
theorem dX6_warmestSeat_5 : decode cX6_warmestSeat 5 = .ok (.istore_n 3, 1) := by decide +kernel
theorem dX6_warmestSeat_6 : decode cX6_warmestSeat 6 = .ok (.iload_n 3, 1) := by decide +kernel
theorem dX6_warmestSeat_7 : decode cX6_warmestSeat 7 = .ok (.aload_n 0, 1) := by decide +kernel
theorem dX6_warmestSeat_8 : decode cX6_warmestSeat 8 = .ok (.getfield 9, 3) := by decide +kernel
theorem dX6_warmestSeat_11 : decode cX6_warmestSeat 11 = .ok (.if_icmp .ge 37, 3) := by decide +kernel
theorem dX6_warmestSeat_14 : decode cX6_warmestSeat 14 = .ok (.aload_n 0, 1) := by decide +kernel
theorem dX6_warmestSeat_15 : decode cX6_warmestSeat 15 = .ok (.getfield 15, 3) := by decide +kernel
theorem dX6_warmestSeat_18 : decode cX6_warmestSeat 18 = .ok (.iload_n 3, 1) := by decide +kernel
theorem dX6_warmestSeat_19 : decode cX6_warmestSeat 19 = .ok (.iaload, 1) := by decide +kernel
theorem dX6_warmestSeat_20 : decode cX6_warmestSeat 20 = .ok (.iload_n 2, 1) := by decide +kernel
theorem dX6_warmestSeat_21 : decode cX6_warmestSeat 21 = .ok (.if_icmp .le 21, 3) := by decide +kernel
theorem dX6_warmestSeat_24 : decode cX6_warmestSeat 24 = .ok (.aload_n 0, 1) := by decide +kernel
theorem dX6_warmestSeat_25 : decode cX6_warmestSeat 25 = .ok (.iload_n 3, 1) := by decide +kernel
theorem dX6_warmestSeat_26 : decode cX6_warmestSeat 26 = .ok (.invokevirtual 87, 3) := by decide +kernel
theorem dX6_warmestSeat_29 : decode cX6_warmestSeat 29 = .ok (.iconst (-1), 1) := by decide +kernel
theorem dX6_warmestSeat_30 : decode cX6_warmestSeat 30 = .ok (.if_icmp .ne 12, 3) := by decide +kernel
theorem dX6_warmestSeat_33 : decode cX6_warmestSeat 33 = .ok (.iload_n 3, 1) := by decide +kernel
theorem dX6_warmestSeat_34 : decode cX6_warmestSeat 34 = .ok (.istore_n 1, 1) := by decide +kernel
theorem dX6_warmestSeat_35 : decode cX6_warmestSeat 35 = .ok (.aload_n 0, 1) := by decide +kernel
theorem dX6_warmestSeat_36 : decode cX6_warmestSeat 36 = .ok (.getfield 15, 3) := by decide +kernel
theorem dX6_warmestSeat_39 : decode cX6_warmestSeat 39 = .ok (.iload_n 3, 1) := by decide +kernel
theorem dX6_warmestSeat_40 : decode cX6_warmestSeat 40 = .ok (.iaload, 1) := by decide +kernel
theorem dX6_warmestSeat_41 : decode cX6_warmestSeat 41 = .ok (.istore_n 2, 1) := by decide +kernel
theorem dX6_warmestSeat_42 : decode cX6_warmestSeat 42 = .ok (.iinc 3 1, 3) := by decide +kernel
theorem dX6_warmestSeat_45 : decode cX6_warmestSeat 45 = .ok (.goto (-39), 3) := by decide +kernel
theorem dX6_warmestSeat_48 : decode cX6_warmestSeat 48 = .ok (.iload_n 1, 1) := by decide +kernel
theorem dX6_warmestSeat_49 : decode cX6_warmestSeat 49 = .ok (.ireturn, 1) := by decide +kernel
theorem dX6_sitsAtHome_0 : decode cX6_sitsAtHome 0 = .ok (.aload_n 0, 1) := by decide +kernel
theorem dX6_sitsAtHome_1 : decode cX6_sitsAtHome 1 = .ok (.getfield 19, 3) := by decide +kernel
theorem dX6_sitsAtHome_4 : decode cX6_sitsAtHome 4 = .ok (.aload_n 0, 1) := by decide +kernel
theorem dX6_sitsAtHome_5 : decode cX6_sitsAtHome 5 = .ok (.getfield 46, 3) := by decide +kernel
theorem dX6_sitsAtHome_8 : decode cX6_sitsAtHome 8 = .ok (.iload_n 1, 1) := by decide +kernel
theorem dX6_sitsAtHome_9 : decode cX6_sitsAtHome 9 = .ok (.iaload, 1) := by decide +kernel
theorem dX6_sitsAtHome_10 : decode cX6_sitsAtHome 10 = .ok (.iaload, 1) := by decide +kernel
theorem dX6_sitsAtHome_11 : decode cX6_sitsAtHome 11 = .ok (.iload_n 1, 1) := by decide +kernel
theorem dX6_sitsAtHome_12 : decode cX6_sitsAtHome 12 = .ok (.if_icmp .ne 7, 3) := by decide +kernel
theorem dX6_sitsAtHome_15 : decode cX6_sitsAtHome 15 = .ok (.iconst 1, 1) := by decide +kernel
theorem dX6_sitsAtHome_16 : decode cX6_sitsAtHome 16 = .ok (.goto 4, 3) := by decide +kernel
theorem dX6_sitsAtHome_19 : decode cX6_sitsAtHome 19 = .ok (.iconst 0, 1) := by decide +kernel
theorem dX6_sitsAtHome_20 : decode cX6_sitsAtHome 20 = .ok (.ireturn, 1) := by decide +kernel
theorem dX6_might_0 : decode cX6_might 0 = .ok (.aload_n 0, 1) := by decide +kernel
theorem dX6_might_1 : decode cX6_might 1 = .ok (.iload_n 1, 1) := by decide +kernel
theorem dX6_might_2 : decode cX6_might 2 = .ok (.invokevirtual 91, 3) := by decide +kernel
theorem dX6_might_5 : decode cX6_might 5 = .ok (.ifCond .eq 14, 3) := by decide +kernel
theorem dX6_might_8 : decode cX6_might 8 = .ok (.aload_n 0, 1) := by decide +kernel
theorem dX6_might_9 : decode cX6_might 9 = .ok (.getfield 40, 3) := by decide +kernel
theorem dX6_might_12 : decode cX6_might 12 = .ok (.iload_n 1, 1) := by decide +kernel
theorem dX6_might_13 : decode cX6_might 13 = .ok (.iaload, 1) := by decide +kernel
theorem dX6_might_14 : decode cX6_might 14 = .ok (.iconst 2, 1) := by decide +kernel
theorem dX6_might_15 : decode cX6_might 15 = .ok (.iadd, 1) := by decide +kernel
theorem dX6_might_16 : decode cX6_might 16 = .ok (.goto 9, 3) := by decide +kernel
theorem dX6_might_19 : decode cX6_might 19 = .ok (.aload_n 0, 1) := by decide +kernel
theorem dX6_might_20 : decode cX6_might 20 = .ok (.getfield 40, 3) := by decide +kernel
theorem dX6_might_23 : decode cX6_might 23 = .ok (.iload_n 1, 1) := by decide +kernel
theorem dX6_might_24 : decode cX6_might 24 = .ok (.iaload, 1) := by decide +kernel
theorem dX6_might_25 : decode cX6_might 25 = .ok (.ireturn, 1) := by decide +kernel
theorem dX6_estate_0 : decode cX6_estate 0 = .ok (.iconst 0, 1) := by decide +kernel
theorem dX6_estate_1 : decode cX6_estate 1 = .ok (.istore_n 2, 1) := by decide +kernel
theorem dX6_estate_2 : decode cX6_estate 2 = .ok (.iconst 0, 1) := by decide +kernel
theorem dX6_estate_3 : decode cX6_estate 3 = .ok (.istore_n 3, 1) := by decide +kernel
theorem dX6_estate_4 : decode cX6_estate 4 = .ok (.iload_n 3, 1) := by decide +kernel
theorem dX6_estate_5 : decode cX6_estate 5 = .ok (.aload_n 0, 1) := by decide +kernel
theorem dX6_estate_6 : decode cX6_estate 6 = .ok (.getfield 9, 3) := by decide +kernel
theorem dX6_estate_9 : decode cX6_estate 9 = .ok (.if_icmp .ge 25, 3) := by decide +kernel
theorem dX6_estate_12 : decode cX6_estate 12 = .ok (.aload_n 0, 1) := by decide +kernel
theorem dX6_estate_13 : decode cX6_estate 13 = .ok (.getfield 19, 3) := by decide +kernel
theorem dX6_estate_16 : decode cX6_estate 16 = .ok (.iload_n 3, 1) := by decide +kernel
theorem dX6_estate_17 : decode cX6_estate 17 = .ok (.iaload, 1) := by decide +kernel
theorem dX6_estate_18 : decode cX6_estate 18 = .ok (.iload_n 1, 1) := by decide +kernel
theorem dX6_estate_19 : decode cX6_estate 19 = .ok (.if_icmp .ne 9, 3) := by decide +kernel
theorem dX6_estate_22 : decode cX6_estate 22 = .ok (.iload_n 2, 1) := by decide +kernel
theorem dX6_estate_23 : decode cX6_estate 23 = .ok (.iconst 1, 1) := by decide +kernel
theorem dX6_estate_24 : decode cX6_estate 24 = .ok (.iload_n 3, 1) := by decide +kernel
theorem dX6_estate_25 : decode cX6_estate 25 = .ok (.ishl, 1) := by decide +kernel
theorem dX6_estate_26 : decode cX6_estate 26 = .ok (.ior, 1) := by decide +kernel
theorem dX6_estate_27 : decode cX6_estate 27 = .ok (.istore_n 2, 1) := by decide +kernel
theorem dX6_estate_28 : decode cX6_estate 28 = .ok (.iinc 3 1, 3) := by decide +kernel
theorem dX6_estate_31 : decode cX6_estate 31 = .ok (.goto (-27), 3) := by decide +kernel
theorem dX6_estate_34 : decode cX6_estate 34 = .ok (.iload_n 2, 1) := by decide +kernel
theorem dX6_estate_35 : decode cX6_estate 35 = .ok (.ireturn, 1) := by decide +kernel
theorem dX6_ownsEnough_0 : decode cX6_ownsEnough 0 = .ok (.aload_n 0, 1) := by decide +kernel
theorem dX6_ownsEnough_1 : decode cX6_ownsEnough 1 = .ok (.iload_n 1, 1) := by decide +kernel
theorem dX6_ownsEnough_2 : decode cX6_ownsEnough 2 = .ok (.invokevirtual 95, 3) := by decide +kernel
theorem dX6_ownsEnough_5 : decode cX6_ownsEnough 5 = .ok (.invokestatic 98, 3) := by decide +kernel
theorem dX6_ownsEnough_8 : decode cX6_ownsEnough 8 = .ok (.iconst 4, 1) := by decide +kernel
theorem dX6_ownsEnough_9 : decode cX6_ownsEnough 9 = .ok (.if_icmp .lt 7, 3) := by decide +kernel
theorem dX6_ownsEnough_12 : decode cX6_ownsEnough 12 = .ok (.iconst 1, 1) := by decide +kernel
theorem dX6_ownsEnough_13 : decode cX6_ownsEnough 13 = .ok (.goto 4, 3) := by decide +kernel
theorem dX6_ownsEnough_16 : decode cX6_ownsEnough 16 = .ok (.iconst 0, 1) := by decide +kernel
theorem dX6_ownsEnough_17 : decode cX6_ownsEnough 17 = .ok (.ireturn, 1) := by decide +kernel
theorem dX6_truceLeft_0 : decode cX6_truceLeft 0 = .ok (.iconst 0, 1) := by decide +kernel
theorem dX6_truceLeft_1 : decode cX6_truceLeft 1 = .ok (.aload_n 0, 1) := by decide +kernel
theorem dX6_truceLeft_2 : decode cX6_truceLeft 2 = .ok (.getfield 49, 3) := by decide +kernel
theorem dX6_truceLeft_5 : decode cX6_truceLeft 5 = .ok (.iload_n 1, 1) := by decide +kernel
theorem dX6_truceLeft_6 : decode cX6_truceLeft 6 = .ok (.bipush 8, 2) := by decide +kernel
theorem dX6_truceLeft_8 : decode cX6_truceLeft 8 = .ok (.imul, 1) := by decide +kernel
theorem dX6_truceLeft_9 : decode cX6_truceLeft 9 = .ok (.iload_n 2, 1) := by decide +kernel
theorem dX6_truceLeft_10 : decode cX6_truceLeft 10 = .ok (.iadd, 1) := by decide +kernel
theorem dX6_truceLeft_11 : decode cX6_truceLeft 11 = .ok (.iaload, 1) := by decide +kernel
theorem dX6_truceLeft_12 : decode cX6_truceLeft 12 = .ok (.aload_n 0, 1) := by decide +kernel
theorem dX6_truceLeft_13 : decode cX6_truceLeft 13 = .ok (.getfield 52, 3) := by decide +kernel
theorem dX6_truceLeft_16 : decode cX6_truceLeft 16 = .ok (.isub, 1) := by decide +kernel
theorem dX6_truceLeft_17 : decode cX6_truceLeft 17 = .ok (.invokestatic 103, 3) := by decide +kernel
theorem dX6_truceLeft_20 : decode cX6_truceLeft 20 = .ok (.ireturn, 1) := by decide +kernel
theorem dX6_isBarred_0 : decode cX6_isBarred 0 = .ok (.aload_n 0, 1) := by decide +kernel
theorem dX6_isBarred_1 : decode cX6_isBarred 1 = .ok (.getfield 19, 3) := by decide +kernel
theorem dX6_isBarred_4 : decode cX6_isBarred 4 = .ok (.iload_n 2, 1) := by decide +kernel
theorem dX6_isBarred_5 : decode cX6_isBarred 5 = .ok (.iaload, 1) := by decide +kernel
theorem dX6_isBarred_6 : decode cX6_isBarred 6 = .ok (.istore_n 3, 1) := by decide +kernel
theorem dX6_isBarred_7 : decode cX6_isBarred 7 = .ok (.iload_n 3, 1) := by decide +kernel
theorem dX6_isBarred_8 : decode cX6_isBarred 8 = .ok (.iconst (-1), 1) := by decide +kernel
theorem dX6_isBarred_9 : decode cX6_isBarred 9 = .ok (.if_icmp .eq 21, 3) := by decide +kernel
theorem dX6_isBarred_12 : decode cX6_isBarred 12 = .ok (.iload_n 3, 1) := by decide +kernel
theorem dX6_isBarred_13 : decode cX6_isBarred 13 = .ok (.iload_n 1, 1) := by decide +kernel
theorem dX6_isBarred_14 : decode cX6_isBarred 14 = .ok (.if_icmp .eq 16, 3) := by decide +kernel
theorem dX6_isBarred_17 : decode cX6_isBarred 17 = .ok (.aload_n 0, 1) := by decide +kernel
theorem dX6_isBarred_18 : decode cX6_isBarred 18 = .ok (.iload_n 1, 1) := by decide +kernel
theorem dX6_isBarred_19 : decode cX6_isBarred 19 = .ok (.iload_n 3, 1) := by decide +kernel
theorem dX6_isBarred_20 : decode cX6_isBarred 20 = .ok (.invokevirtual 109, 3) := by decide +kernel
theorem dX6_isBarred_23 : decode cX6_isBarred 23 = .ok (.ifCond .ne 7, 3) := by decide +kernel
theorem dX6_isBarred_26 : decode cX6_isBarred 26 = .ok (.iconst 1, 1) := by decide +kernel
theorem dX6_isBarred_27 : decode cX6_isBarred 27 = .ok (.goto 4, 3) := by decide +kernel
theorem dX6_isBarred_30 : decode cX6_isBarred 30 = .ok (.iconst 0, 1) := by decide +kernel
theorem dX6_isBarred_31 : decode cX6_isBarred 31 = .ok (.ireturn, 1) := by decide +kernel
theorem dX6_spread_0 : decode cX6_spread 0 = .ok (.iconst 1, 1) := by decide +kernel
theorem dX6_spread_1 : decode cX6_spread 1 = .ok (.iload_n 1, 1) := by decide +kernel
theorem dX6_spread_2 : decode cX6_spread 2 = .ok (.ishl, 1) := by decide +kernel
theorem dX6_spread_3 : decode cX6_spread 3 = .ok (.istore 5, 2) := by decide +kernel
theorem dX6_spread_5 : decode cX6_spread 5 = .ok (.iconst 0, 1) := by decide +kernel
theorem dX6_spread_6 : decode cX6_spread 6 = .ok (.istore 6, 2) := by decide +kernel
theorem dX6_spread_8 : decode cX6_spread 8 = .ok (.iload 6, 2) := by decide +kernel
theorem dX6_spread_10 : decode cX6_spread 10 = .ok (.iload 4, 2) := by decide +kernel
theorem dX6_spread_12 : decode cX6_spread 12 = .ok (.if_icmp .ge 94, 3) := by decide +kernel
theorem dX6_spread_15 : decode cX6_spread 15 = .ok (.iload 5, 2) := by decide +kernel
theorem dX6_spread_17 : decode cX6_spread 17 = .ok (.istore 7, 2) := by decide +kernel
theorem dX6_spread_19 : decode cX6_spread 19 = .ok (.iconst 0, 1) := by decide +kernel
theorem dX6_spread_20 : decode cX6_spread 20 = .ok (.istore 8, 2) := by decide +kernel
theorem dX6_spread_22 : decode cX6_spread 22 = .ok (.iload 8, 2) := by decide +kernel
theorem dX6_spread_24 : decode cX6_spread 24 = .ok (.aload_n 0, 1) := by decide +kernel
theorem dX6_spread_25 : decode cX6_spread 25 = .ok (.getfield 22, 3) := by decide +kernel
theorem dX6_spread_28 : decode cX6_spread 28 = .ok (.if_icmp .ge 58, 3) := by decide +kernel
theorem dX6_spread_31 : decode cX6_spread 31 = .ok (.iconst 1, 1) := by decide +kernel
theorem dX6_spread_32 : decode cX6_spread 32 = .ok (.aload_n 0, 1) := by decide +kernel
theorem dX6_spread_33 : decode cX6_spread 33 = .ok (.getfield 25, 3) := by decide +kernel
theorem dX6_spread_36 : decode cX6_spread 36 = .ok (.iload 8, 2) := by decide +kernel
theorem dX6_spread_38 : decode cX6_spread 38 = .ok (.iaload, 1) := by decide +kernel
theorem dX6_spread_39 : decode cX6_spread 39 = .ok (.ishl, 1) := by decide +kernel
theorem dX6_spread_40 : decode cX6_spread 40 = .ok (.iconst 1, 1) := by decide +kernel
theorem dX6_spread_41 : decode cX6_spread 41 = .ok (.aload_n 0, 1) := by decide +kernel
theorem dX6_spread_42 : decode cX6_spread 42 = .ok (.getfield 28, 3) := by decide +kernel
theorem dX6_spread_45 : decode cX6_spread 45 = .ok (.iload 8, 2) := by decide +kernel
theorem dX6_spread_47 : decode cX6_spread 47 = .ok (.iaload, 1) := by decide +kernel
theorem dX6_spread_48 : decode cX6_spread 48 = .ok (.ishl, 1) := by decide +kernel
theorem dX6_spread_49 : decode cX6_spread 49 = .ok (.ior, 1) := by decide +kernel
theorem dX6_spread_50 : decode cX6_spread 50 = .ok (.istore 9, 2) := by decide +kernel
theorem dX6_spread_52 : decode cX6_spread 52 = .ok (.aload_n 0, 1) := by decide +kernel
theorem dX6_spread_53 : decode cX6_spread 53 = .ok (.getfield 31, 3) := by decide +kernel
theorem dX6_spread_56 : decode cX6_spread 56 = .ok (.iload 8, 2) := by decide +kernel
theorem dX6_spread_58 : decode cX6_spread 58 = .ok (.iaload, 1) := by decide +kernel
theorem dX6_spread_59 : decode cX6_spread 59 = .ok (.iload_n 3, 1) := by decide +kernel
theorem dX6_spread_60 : decode cX6_spread 60 = .ok (.if_icmp .lt 20, 3) := by decide +kernel
theorem dX6_spread_63 : decode cX6_spread 63 = .ok (.iload 5, 2) := by decide +kernel
theorem dX6_spread_65 : decode cX6_spread 65 = .ok (.iload 9, 2) := by decide +kernel
theorem dX6_spread_67 : decode cX6_spread 67 = .ok (.iand, 1) := by decide +kernel
theorem dX6_spread_68 : decode cX6_spread 68 = .ok (.ifCond .eq 12, 3) := by decide +kernel
theorem dX6_spread_71 : decode cX6_spread 71 = .ok (.iload 7, 2) := by decide +kernel
theorem dX6_spread_73 : decode cX6_spread 73 = .ok (.iload 9, 2) := by decide +kernel
theorem dX6_spread_75 : decode cX6_spread 75 = .ok (.iload_n 2, 1) := by decide +kernel
theorem dX6_spread_76 : decode cX6_spread 76 = .ok (.iand, 1) := by decide +kernel
theorem dX6_spread_77 : decode cX6_spread 77 = .ok (.ior, 1) := by decide +kernel
theorem dX6_spread_78 : decode cX6_spread 78 = .ok (.istore 7, 2) := by decide +kernel
theorem dX6_spread_80 : decode cX6_spread 80 = .ok (.iinc 8 1, 3) := by decide +kernel
theorem dX6_spread_83 : decode cX6_spread 83 = .ok (.goto (-61), 3) := by decide +kernel
theorem dX6_spread_86 : decode cX6_spread 86 = .ok (.iload 7, 2) := by decide +kernel
theorem dX6_spread_88 : decode cX6_spread 88 = .ok (.iload 5, 2) := by decide +kernel
theorem dX6_spread_90 : decode cX6_spread 90 = .ok (.if_icmp .ne 6, 3) := by decide +kernel
theorem dX6_spread_93 : decode cX6_spread 93 = .ok (.iload 5, 2) := by decide +kernel
theorem dX6_spread_95 : decode cX6_spread 95 = .ok (.ireturn, 1) := by decide +kernel
theorem dX6_spread_96 : decode cX6_spread 96 = .ok (.iload 7, 2) := by decide +kernel
theorem dX6_spread_98 : decode cX6_spread 98 = .ok (.istore 5, 2) := by decide +kernel
theorem dX6_spread_100 : decode cX6_spread 100 = .ok (.iinc 6 1, 3) := by decide +kernel
theorem dX6_spread_103 : decode cX6_spread 103 = .ok (.goto (-95), 3) := by decide +kernel
theorem dX6_spread_106 : decode cX6_spread 106 = .ok (.iload 5, 2) := by decide +kernel
theorem dX6_spread_108 : decode cX6_spread 108 = .ok (.ireturn, 1) := by decide +kernel
theorem dX6_walkable_0 : decode cX6_walkable 0 = .ok (.iconst 0, 1) := by decide +kernel
theorem dX6_walkable_1 : decode cX6_walkable 1 = .ok (.istore_n 3, 1) := by decide +kernel
theorem dX6_walkable_2 : decode cX6_walkable 2 = .ok (.iconst 0, 1) := by decide +kernel
theorem dX6_walkable_3 : decode cX6_walkable 3 = .ok (.istore 4, 2) := by decide +kernel
theorem dX6_walkable_5 : decode cX6_walkable 5 = .ok (.iload 4, 2) := by decide +kernel
theorem dX6_walkable_7 : decode cX6_walkable 7 = .ok (.aload_n 0, 1) := by decide +kernel
theorem dX6_walkable_8 : decode cX6_walkable 8 = .ok (.getfield 9, 3) := by decide +kernel
theorem dX6_walkable_11 : decode cX6_walkable 11 = .ok (.if_icmp .ge 36, 3) := by decide +kernel
theorem dX6_walkable_14 : decode cX6_walkable 14 = .ok (.aload_n 0, 1) := by decide +kernel
theorem dX6_walkable_15 : decode cX6_walkable 15 = .ok (.iload 4, 2) := by decide +kernel
theorem dX6_walkable_17 : decode cX6_walkable 17 = .ok (.invokevirtual 87, 3) := by decide +kernel
theorem dX6_walkable_20 : decode cX6_walkable 20 = .ok (.iconst (-1), 1) := by decide +kernel
theorem dX6_walkable_21 : decode cX6_walkable 21 = .ok (.if_icmp .ne 20, 3) := by decide +kernel
theorem dX6_walkable_24 : decode cX6_walkable 24 = .ok (.aload_n 0, 1) := by decide +kernel
theorem dX6_walkable_25 : decode cX6_walkable 25 = .ok (.iload_n 1, 1) := by decide +kernel
theorem dX6_walkable_26 : decode cX6_walkable 26 = .ok (.iload 4, 2) := by decide +kernel
theorem dX6_walkable_28 : decode cX6_walkable 28 = .ok (.invokevirtual 112, 3) := by decide +kernel
theorem dX6_walkable_31 : decode cX6_walkable 31 = .ok (.ifCond .ne 10, 3) := by decide +kernel
theorem dX6_walkable_34 : decode cX6_walkable 34 = .ok (.iload_n 3, 1) := by decide +kernel
theorem dX6_walkable_35 : decode cX6_walkable 35 = .ok (.iconst 1, 1) := by decide +kernel
theorem dX6_walkable_36 : decode cX6_walkable 36 = .ok (.iload 4, 2) := by decide +kernel
theorem dX6_walkable_38 : decode cX6_walkable 38 = .ok (.ishl, 1) := by decide +kernel
theorem dX6_walkable_39 : decode cX6_walkable 39 = .ok (.ior, 1) := by decide +kernel
theorem dX6_walkable_40 : decode cX6_walkable 40 = .ok (.istore_n 3, 1) := by decide +kernel
theorem dX6_walkable_41 : decode cX6_walkable 41 = .ok (.iinc 4 1, 3) := by decide +kernel
theorem dX6_walkable_44 : decode cX6_walkable 44 = .ok (.goto (-39), 3) := by decide +kernel
theorem dX6_walkable_47 : decode cX6_walkable 47 = .ok (.aload_n 0, 1) := by decide +kernel
theorem dX6_walkable_48 : decode cX6_walkable 48 = .ok (.aload_n 0, 1) := by decide +kernel
theorem dX6_walkable_49 : decode cX6_walkable 49 = .ok (.getfield 46, 3) := by decide +kernel
theorem dX6_walkable_52 : decode cX6_walkable 52 = .ok (.iload_n 1, 1) := by decide +kernel
theorem dX6_walkable_53 : decode cX6_walkable 53 = .ok (.iaload, 1) := by decide +kernel
theorem dX6_walkable_54 : decode cX6_walkable 54 = .ok (.iload_n 3, 1) := by decide +kernel
theorem dX6_walkable_55 : decode cX6_walkable 55 = .ok (.aload_n 0, 1) := by decide +kernel
theorem dX6_walkable_56 : decode cX6_walkable 56 = .ok (.getfield 37, 3) := by decide +kernel
theorem dX6_walkable_59 : decode cX6_walkable 59 = .ok (.iload_n 1, 1) := by decide +kernel
theorem dX6_walkable_60 : decode cX6_walkable 60 = .ok (.iaload, 1) := by decide +kernel
theorem dX6_walkable_61 : decode cX6_walkable 61 = .ok (.iload_n 2, 1) := by decide +kernel
theorem dX6_walkable_62 : decode cX6_walkable 62 = .ok (.invokevirtual 116, 3) := by decide +kernel
theorem dX6_walkable_65 : decode cX6_walkable 65 = .ok (.ireturn, 1) := by decide +kernel
theorem dX6_fewestSteps_0 : decode cX6_fewestSteps 0 = .ok (.iconst 0, 1) := by decide +kernel
theorem dX6_fewestSteps_1 : decode cX6_fewestSteps 1 = .ok (.istore_n 3, 1) := by decide +kernel
theorem dX6_fewestSteps_2 : decode cX6_fewestSteps 2 = .ok (.iload_n 3, 1) := by decide +kernel
theorem dX6_fewestSteps_3 : decode cX6_fewestSteps 3 = .ok (.bipush 10, 2) := by decide +kernel
theorem dX6_fewestSteps_5 : decode cX6_fewestSteps 5 = .ok (.if_icmp .ge 24, 3) := by decide +kernel
theorem dX6_fewestSteps_8 : decode cX6_fewestSteps 8 = .ok (.aload_n 0, 1) := by decide +kernel
theorem dX6_fewestSteps_9 : decode cX6_fewestSteps 9 = .ok (.iload_n 1, 1) := by decide +kernel
theorem dX6_fewestSteps_10 : decode cX6_fewestSteps 10 = .ok (.iload_n 3, 1) := by decide +kernel
theorem dX6_fewestSteps_11 : decode cX6_fewestSteps 11 = .ok (.invokevirtual 120, 3) := by decide +kernel
theorem dX6_fewestSteps_14 : decode cX6_fewestSteps 14 = .ok (.iload_n 2, 1) := by decide +kernel
theorem dX6_fewestSteps_15 : decode cX6_fewestSteps 15 = .ok (.ishr, 1) := by decide +kernel
theorem dX6_fewestSteps_16 : decode cX6_fewestSteps 16 = .ok (.iconst 1, 1) := by decide +kernel
theorem dX6_fewestSteps_17 : decode cX6_fewestSteps 17 = .ok (.iand, 1) := by decide +kernel
theorem dX6_fewestSteps_18 : decode cX6_fewestSteps 18 = .ok (.ifCond .eq 5, 3) := by decide +kernel
theorem dX6_fewestSteps_21 : decode cX6_fewestSteps 21 = .ok (.iload_n 3, 1) := by decide +kernel
theorem dX6_fewestSteps_22 : decode cX6_fewestSteps 22 = .ok (.ireturn, 1) := by decide +kernel
theorem dX6_fewestSteps_23 : decode cX6_fewestSteps 23 = .ok (.iinc 3 1, 3) := by decide +kernel
theorem dX6_fewestSteps_26 : decode cX6_fewestSteps 26 = .ok (.goto (-24), 3) := by decide +kernel
theorem dX6_fewestSteps_29 : decode cX6_fewestSteps 29 = .ok (.iconst (-1), 1) := by decide +kernel
theorem dX6_fewestSteps_30 : decode cX6_fewestSteps 30 = .ok (.ireturn, 1) := by decide +kernel
theorem dX6_widestGirth_0 : decode cX6_widestGirth 0 = .ok (.iconst 1, 1) := by decide +kernel
theorem dX6_widestGirth_1 : decode cX6_widestGirth 1 = .ok (.aload_n 0, 1) := by decide +kernel
theorem dX6_widestGirth_2 : decode cX6_widestGirth 2 = .ok (.getfield 9, 3) := by decide +kernel
theorem dX6_widestGirth_5 : decode cX6_widestGirth 5 = .ok (.ishl, 1) := by decide +kernel
theorem dX6_widestGirth_6 : decode cX6_widestGirth 6 = .ok (.iconst 1, 1) := by decide +kernel
theorem dX6_widestGirth_7 : decode cX6_widestGirth 7 = .ok (.isub, 1) := by decide +kernel
theorem dX6_widestGirth_8 : decode cX6_widestGirth 8 = .ok (.istore_n 3, 1) := by decide +kernel
theorem dX6_widestGirth_9 : decode cX6_widestGirth 9 = .ok (.bipush 9, 2) := by decide +kernel
theorem dX6_widestGirth_11 : decode cX6_widestGirth 11 = .ok (.istore 4, 2) := by decide +kernel
theorem dX6_widestGirth_13 : decode cX6_widestGirth 13 = .ok (.iload 4, 2) := by decide +kernel
theorem dX6_widestGirth_15 : decode cX6_widestGirth 15 = .ok (.iconst 1, 1) := by decide +kernel
theorem dX6_widestGirth_16 : decode cX6_widestGirth 16 = .ok (.if_icmp .lt 29, 3) := by decide +kernel
theorem dX6_widestGirth_19 : decode cX6_widestGirth 19 = .ok (.aload_n 0, 1) := by decide +kernel
theorem dX6_widestGirth_20 : decode cX6_widestGirth 20 = .ok (.iload_n 1, 1) := by decide +kernel
theorem dX6_widestGirth_21 : decode cX6_widestGirth 21 = .ok (.iload_n 3, 1) := by decide +kernel
theorem dX6_widestGirth_22 : decode cX6_widestGirth 22 = .ok (.iload 4, 2) := by decide +kernel
theorem dX6_widestGirth_24 : decode cX6_widestGirth 24 = .ok (.bipush 10, 2) := by decide +kernel
theorem dX6_widestGirth_26 : decode cX6_widestGirth 26 = .ok (.invokevirtual 116, 3) := by decide +kernel
theorem dX6_widestGirth_29 : decode cX6_widestGirth 29 = .ok (.iload_n 2, 1) := by decide +kernel
theorem dX6_widestGirth_30 : decode cX6_widestGirth 30 = .ok (.ishr, 1) := by decide +kernel
theorem dX6_widestGirth_31 : decode cX6_widestGirth 31 = .ok (.iconst 1, 1) := by decide +kernel
theorem dX6_widestGirth_32 : decode cX6_widestGirth 32 = .ok (.iand, 1) := by decide +kernel
theorem dX6_widestGirth_33 : decode cX6_widestGirth 33 = .ok (.ifCond .eq 6, 3) := by decide +kernel
theorem dX6_widestGirth_36 : decode cX6_widestGirth 36 = .ok (.iload 4, 2) := by decide +kernel
theorem dX6_widestGirth_38 : decode cX6_widestGirth 38 = .ok (.ireturn, 1) := by decide +kernel
theorem dX6_widestGirth_39 : decode cX6_widestGirth 39 = .ok (.iinc 4 (-1), 3) := by decide +kernel
theorem dX6_widestGirth_42 : decode cX6_widestGirth 42 = .ok (.goto (-29), 3) := by decide +kernel
theorem dX6_widestGirth_45 : decode cX6_widestGirth 45 = .ok (.iconst (-1), 1) := by decide +kernel
theorem dX6_widestGirth_46 : decode cX6_widestGirth 46 = .ok (.ireturn, 1) := by decide +kernel
theorem dX6_refusesCat_0 : decode cX6_refusesCat 0 = .ok (.aload_n 0, 1) := by decide +kernel
theorem dX6_refusesCat_1 : decode cX6_refusesCat 1 = .ok (.getfield 34, 3) := by decide +kernel
theorem dX6_refusesCat_4 : decode cX6_refusesCat 4 = .ok (.bipush 8, 2) := by decide +kernel
theorem dX6_refusesCat_6 : decode cX6_refusesCat 6 = .ok (.if_icmp .ge 12, 3) := by decide +kernel
theorem dX6_refusesCat_9 : decode cX6_refusesCat 9 = .ok (.aload_n 0, 1) := by decide +kernel
theorem dX6_refusesCat_10 : decode cX6_refusesCat 10 = .ok (.iload_n 1, 1) := by decide +kernel
theorem dX6_refusesCat_11 : decode cX6_refusesCat 11 = .ok (.invokevirtual 87, 3) := by decide +kernel
theorem dX6_refusesCat_14 : decode cX6_refusesCat 14 = .ok (.iconst (-1), 1) := by decide +kernel
theorem dX6_refusesCat_15 : decode cX6_refusesCat 15 = .ok (.if_icmp .eq 7, 3) := by decide +kernel
theorem dX6_refusesCat_18 : decode cX6_refusesCat 18 = .ok (.iconst 1, 1) := by decide +kernel
theorem dX6_refusesCat_19 : decode cX6_refusesCat 19 = .ok (.goto 4, 3) := by decide +kernel
theorem dX6_refusesCat_22 : decode cX6_refusesCat 22 = .ok (.iconst 0, 1) := by decide +kernel
theorem dX6_refusesCat_23 : decode cX6_refusesCat 23 = .ok (.ireturn, 1) := by decide +kernel
theorem dX6_stepRefusal_0 : decode cX6_stepRefusal 0 = .ok (.aload_n 0, 1) := by decide +kernel
theorem dX6_stepRefusal_1 : decode cX6_stepRefusal 1 = .ok (.getfield 25, 3) := by decide +kernel
theorem dX6_stepRefusal_4 : decode cX6_stepRefusal 4 = .ok (.iload_n 2, 1) := by decide +kernel
theorem dX6_stepRefusal_5 : decode cX6_stepRefusal 5 = .ok (.iaload, 1) := by decide +kernel
theorem dX6_stepRefusal_6 : decode cX6_stepRefusal 6 = .ok (.aload_n 0, 1) := by decide +kernel
theorem dX6_stepRefusal_7 : decode cX6_stepRefusal 7 = .ok (.getfield 46, 3) := by decide +kernel
theorem dX6_stepRefusal_10 : decode cX6_stepRefusal 10 = .ok (.iload_n 1, 1) := by decide +kernel
theorem dX6_stepRefusal_11 : decode cX6_stepRefusal 11 = .ok (.iaload, 1) := by decide +kernel
theorem dX6_stepRefusal_12 : decode cX6_stepRefusal 12 = .ok (.if_icmp .eq 20, 3) := by decide +kernel
theorem dX6_stepRefusal_15 : decode cX6_stepRefusal 15 = .ok (.aload_n 0, 1) := by decide +kernel
theorem dX6_stepRefusal_16 : decode cX6_stepRefusal 16 = .ok (.getfield 28, 3) := by decide +kernel
theorem dX6_stepRefusal_19 : decode cX6_stepRefusal 19 = .ok (.iload_n 2, 1) := by decide +kernel
theorem dX6_stepRefusal_20 : decode cX6_stepRefusal 20 = .ok (.iaload, 1) := by decide +kernel
theorem dX6_stepRefusal_21 : decode cX6_stepRefusal 21 = .ok (.aload_n 0, 1) := by decide +kernel
theorem dX6_stepRefusal_22 : decode cX6_stepRefusal 22 = .ok (.getfield 46, 3) := by decide +kernel
theorem dX6_stepRefusal_25 : decode cX6_stepRefusal 25 = .ok (.iload_n 1, 1) := by decide +kernel
theorem dX6_stepRefusal_26 : decode cX6_stepRefusal 26 = .ok (.iaload, 1) := by decide +kernel
theorem dX6_stepRefusal_27 : decode cX6_stepRefusal 27 = .ok (.if_icmp .eq 5, 3) := by decide +kernel
theorem dX6_stepRefusal_30 : decode cX6_stepRefusal 30 = .ok (.iconst 1, 1) := by decide +kernel
theorem dX6_stepRefusal_31 : decode cX6_stepRefusal 31 = .ok (.ireturn, 1) := by decide +kernel
theorem dX6_stepRefusal_32 : decode cX6_stepRefusal 32 = .ok (.aload_n 0, 1) := by decide +kernel
theorem dX6_stepRefusal_33 : decode cX6_stepRefusal 33 = .ok (.getfield 31, 3) := by decide +kernel
theorem dX6_stepRefusal_36 : decode cX6_stepRefusal 36 = .ok (.iload_n 2, 1) := by decide +kernel
theorem dX6_stepRefusal_37 : decode cX6_stepRefusal 37 = .ok (.iaload, 1) := by decide +kernel
theorem dX6_stepRefusal_38 : decode cX6_stepRefusal 38 = .ok (.aload_n 0, 1) := by decide +kernel
theorem dX6_stepRefusal_39 : decode cX6_stepRefusal 39 = .ok (.getfield 37, 3) := by decide +kernel
theorem dX6_stepRefusal_42 : decode cX6_stepRefusal 42 = .ok (.iload_n 1, 1) := by decide +kernel
theorem dX6_stepRefusal_43 : decode cX6_stepRefusal 43 = .ok (.iaload, 1) := by decide +kernel
theorem dX6_stepRefusal_44 : decode cX6_stepRefusal 44 = .ok (.if_icmp .ge 5, 3) := by decide +kernel
theorem dX6_stepRefusal_47 : decode cX6_stepRefusal 47 = .ok (.iconst 2, 1) := by decide +kernel
theorem dX6_stepRefusal_48 : decode cX6_stepRefusal 48 = .ok (.ireturn, 1) := by decide +kernel
theorem dX6_stepRefusal_49 : decode cX6_stepRefusal 49 = .ok (.aload_n 0, 1) := by decide +kernel
theorem dX6_stepRefusal_50 : decode cX6_stepRefusal 50 = .ok (.iload_n 1, 1) := by decide +kernel
theorem dX6_stepRefusal_51 : decode cX6_stepRefusal 51 = .ok (.iload_n 2, 1) := by decide +kernel
theorem dX6_stepRefusal_52 : decode cX6_stepRefusal 52 = .ok (.invokevirtual 123, 3) := by decide +kernel
theorem dX6_stepRefusal_55 : decode cX6_stepRefusal 55 = .ok (.istore_n 3, 1) := by decide +kernel
theorem dX6_stepRefusal_56 : decode cX6_stepRefusal 56 = .ok (.aload_n 0, 1) := by decide +kernel
theorem dX6_stepRefusal_57 : decode cX6_stepRefusal 57 = .ok (.iload_n 3, 1) := by decide +kernel
theorem dX6_stepRefusal_58 : decode cX6_stepRefusal 58 = .ok (.invokevirtual 87, 3) := by decide +kernel
theorem dX6_stepRefusal_61 : decode cX6_stepRefusal 61 = .ok (.iconst (-1), 1) := by decide +kernel
theorem dX6_stepRefusal_62 : decode cX6_stepRefusal 62 = .ok (.if_icmp .eq 5, 3) := by decide +kernel
theorem dX6_stepRefusal_65 : decode cX6_stepRefusal 65 = .ok (.iconst 3, 1) := by decide +kernel
theorem dX6_stepRefusal_66 : decode cX6_stepRefusal 66 = .ok (.ireturn, 1) := by decide +kernel
theorem dX6_stepRefusal_67 : decode cX6_stepRefusal 67 = .ok (.aload_n 0, 1) := by decide +kernel
theorem dX6_stepRefusal_68 : decode cX6_stepRefusal 68 = .ok (.iload_n 1, 1) := by decide +kernel
theorem dX6_stepRefusal_69 : decode cX6_stepRefusal 69 = .ok (.iload_n 3, 1) := by decide +kernel
theorem dX6_stepRefusal_70 : decode cX6_stepRefusal 70 = .ok (.invokevirtual 112, 3) := by decide +kernel
theorem dX6_stepRefusal_73 : decode cX6_stepRefusal 73 = .ok (.ifCond .eq 7, 3) := by decide +kernel
theorem dX6_stepRefusal_76 : decode cX6_stepRefusal 76 = .ok (.iconst 4, 1) := by decide +kernel
theorem dX6_stepRefusal_77 : decode cX6_stepRefusal 77 = .ok (.goto 4, 3) := by decide +kernel
theorem dX6_stepRefusal_80 : decode cX6_stepRefusal 80 = .ok (.iconst 0, 1) := by decide +kernel
theorem dX6_stepRefusal_81 : decode cX6_stepRefusal 81 = .ok (.ireturn, 1) := by decide +kernel
theorem dX6_farEnd_0 : decode cX6_farEnd 0 = .ok (.aload_n 0, 1) := by decide +kernel
theorem dX6_farEnd_1 : decode cX6_farEnd 1 = .ok (.getfield 25, 3) := by decide +kernel
theorem dX6_farEnd_4 : decode cX6_farEnd 4 = .ok (.iload_n 2, 1) := by decide +kernel
theorem dX6_farEnd_5 : decode cX6_farEnd 5 = .ok (.iaload, 1) := by decide +kernel
theorem dX6_farEnd_6 : decode cX6_farEnd 6 = .ok (.aload_n 0, 1) := by decide +kernel
theorem dX6_farEnd_7 : decode cX6_farEnd 7 = .ok (.getfield 46, 3) := by decide +kernel
theorem dX6_farEnd_10 : decode cX6_farEnd 10 = .ok (.iload_n 1, 1) := by decide +kernel
theorem dX6_farEnd_11 : decode cX6_farEnd 11 = .ok (.iaload, 1) := by decide +kernel
theorem dX6_farEnd_12 : decode cX6_farEnd 12 = .ok (.if_icmp .ne 12, 3) := by decide +kernel
theorem dX6_farEnd_15 : decode cX6_farEnd 15 = .ok (.aload_n 0, 1) := by decide +kernel
theorem dX6_farEnd_16 : decode cX6_farEnd 16 = .ok (.getfield 28, 3) := by decide +kernel
theorem dX6_farEnd_19 : decode cX6_farEnd 19 = .ok (.iload_n 2, 1) := by decide +kernel
theorem dX6_farEnd_20 : decode cX6_farEnd 20 = .ok (.iaload, 1) := by decide +kernel
theorem dX6_farEnd_21 : decode cX6_farEnd 21 = .ok (.goto 9, 3) := by decide +kernel
theorem dX6_farEnd_24 : decode cX6_farEnd 24 = .ok (.aload_n 0, 1) := by decide +kernel
theorem dX6_farEnd_25 : decode cX6_farEnd 25 = .ok (.getfield 25, 3) := by decide +kernel
theorem dX6_farEnd_28 : decode cX6_farEnd 28 = .ok (.iload_n 2, 1) := by decide +kernel
theorem dX6_farEnd_29 : decode cX6_farEnd 29 = .ok (.iaload, 1) := by decide +kernel
theorem dX6_farEnd_30 : decode cX6_farEnd 30 = .ok (.ireturn, 1) := by decide +kernel
theorem dX6_claimRefusal_0 : decode cX6_claimRefusal 0 = .ok (.aload_n 0, 1) := by decide +kernel
theorem dX6_claimRefusal_1 : decode cX6_claimRefusal 1 = .ok (.getfield 19, 3) := by decide +kernel
theorem dX6_claimRefusal_4 : decode cX6_claimRefusal 4 = .ok (.aload_n 0, 1) := by decide +kernel
theorem dX6_claimRefusal_5 : decode cX6_claimRefusal 5 = .ok (.getfield 46, 3) := by decide +kernel
theorem dX6_claimRefusal_8 : decode cX6_claimRefusal 8 = .ok (.iload_n 1, 1) := by decide +kernel
theorem dX6_claimRefusal_9 : decode cX6_claimRefusal 9 = .ok (.iaload, 1) := by decide +kernel
theorem dX6_claimRefusal_10 : decode cX6_claimRefusal 10 = .ok (.iaload, 1) := by decide +kernel
theorem dX6_claimRefusal_11 : decode cX6_claimRefusal 11 = .ok (.iconst (-1), 1) := by decide +kernel
theorem dX6_claimRefusal_12 : decode cX6_claimRefusal 12 = .ok (.if_icmp .eq 5, 3) := by decide +kernel
theorem dX6_claimRefusal_15 : decode cX6_claimRefusal 15 = .ok (.iconst 5, 1) := by decide +kernel
theorem dX6_claimRefusal_16 : decode cX6_claimRefusal 16 = .ok (.ireturn, 1) := by decide +kernel
theorem dX6_claimRefusal_17 : decode cX6_claimRefusal 17 = .ok (.aload_n 0, 1) := by decide +kernel
theorem dX6_claimRefusal_18 : decode cX6_claimRefusal 18 = .ok (.iload_n 1, 1) := by decide +kernel
theorem dX6_claimRefusal_19 : decode cX6_claimRefusal 19 = .ok (.invokevirtual 126, 3) := by decide +kernel
theorem dX6_claimRefusal_22 : decode cX6_claimRefusal 22 = .ok (.ifCond .eq 8, 3) := by decide +kernel
theorem dX6_claimRefusal_25 : decode cX6_claimRefusal 25 = .ok (.bipush 6, 2) := by decide +kernel
theorem dX6_claimRefusal_27 : decode cX6_claimRefusal 27 = .ok (.goto 4, 3) := by decide +kernel
theorem dX6_claimRefusal_30 : decode cX6_claimRefusal 30 = .ok (.iconst 0, 1) := by decide +kernel
theorem dX6_claimRefusal_31 : decode cX6_claimRefusal 31 = .ok (.ireturn, 1) := by decide +kernel
theorem dX6_chaseRefusal_0 : decode cX6_chaseRefusal 0 = .ok (.aload_n 0, 1) := by decide +kernel
theorem dX6_chaseRefusal_1 : decode cX6_chaseRefusal 1 = .ok (.iload_n 1, 1) := by decide +kernel
theorem dX6_chaseRefusal_2 : decode cX6_chaseRefusal 2 = .ok (.iload_n 2, 1) := by decide +kernel
theorem dX6_chaseRefusal_3 : decode cX6_chaseRefusal 3 = .ok (.invokevirtual 129, 3) := by decide +kernel
theorem dX6_chaseRefusal_6 : decode cX6_chaseRefusal 6 = .ok (.ifCond .ne 6, 3) := by decide +kernel
theorem dX6_chaseRefusal_9 : decode cX6_chaseRefusal 9 = .ok (.bipush 7, 2) := by decide +kernel
theorem dX6_chaseRefusal_11 : decode cX6_chaseRefusal 11 = .ok (.ireturn, 1) := by decide +kernel
theorem dX6_chaseRefusal_12 : decode cX6_chaseRefusal 12 = .ok (.aload_n 0, 1) := by decide +kernel
theorem dX6_chaseRefusal_13 : decode cX6_chaseRefusal 13 = .ok (.iload_n 1, 1) := by decide +kernel
theorem dX6_chaseRefusal_14 : decode cX6_chaseRefusal 14 = .ok (.iload_n 2, 1) := by decide +kernel
theorem dX6_chaseRefusal_15 : decode cX6_chaseRefusal 15 = .ok (.invokevirtual 109, 3) := by decide +kernel
theorem dX6_chaseRefusal_18 : decode cX6_chaseRefusal 18 = .ok (.ifCond .le 6, 3) := by decide +kernel
theorem dX6_chaseRefusal_21 : decode cX6_chaseRefusal 21 = .ok (.bipush 8, 2) := by decide +kernel
theorem dX6_chaseRefusal_23 : decode cX6_chaseRefusal 23 = .ok (.ireturn, 1) := by decide +kernel
theorem dX6_chaseRefusal_24 : decode cX6_chaseRefusal 24 = .ok (.aload_n 0, 1) := by decide +kernel
theorem dX6_chaseRefusal_25 : decode cX6_chaseRefusal 25 = .ok (.iload_n 1, 1) := by decide +kernel
theorem dX6_chaseRefusal_26 : decode cX6_chaseRefusal 26 = .ok (.invokevirtual 132, 3) := by decide +kernel
theorem dX6_chaseRefusal_29 : decode cX6_chaseRefusal 29 = .ok (.aload_n 0, 1) := by decide +kernel
theorem dX6_chaseRefusal_30 : decode cX6_chaseRefusal 30 = .ok (.iload_n 2, 1) := by decide +kernel
theorem dX6_chaseRefusal_31 : decode cX6_chaseRefusal 31 = .ok (.invokevirtual 132, 3) := by decide +kernel
theorem dX6_chaseRefusal_34 : decode cX6_chaseRefusal 34 = .ok (.if_icmp .le 7, 3) := by decide +kernel
theorem dX6_chaseRefusal_37 : decode cX6_chaseRefusal 37 = .ok (.iconst 0, 1) := by decide +kernel
theorem dX6_chaseRefusal_38 : decode cX6_chaseRefusal 38 = .ok (.goto 5, 3) := by decide +kernel
theorem dX6_chaseRefusal_41 : decode cX6_chaseRefusal 41 = .ok (.bipush 9, 2) := by decide +kernel
theorem dX6_chaseRefusal_43 : decode cX6_chaseRefusal 43 = .ok (.ireturn, 1) := by decide +kernel
theorem dX6_isNear_0 : decode cX6_isNear 0 = .ok (.iconst 1, 1) := by decide +kernel
theorem dX6_isNear_1 : decode cX6_isNear 1 = .ok (.aload_n 0, 1) := by decide +kernel
theorem dX6_isNear_2 : decode cX6_isNear 2 = .ok (.getfield 46, 3) := by decide +kernel
theorem dX6_isNear_5 : decode cX6_isNear 5 = .ok (.iload_n 1, 1) := by decide +kernel
theorem dX6_isNear_6 : decode cX6_isNear 6 = .ok (.iaload, 1) := by decide +kernel
theorem dX6_isNear_7 : decode cX6_isNear 7 = .ok (.ishl, 1) := by decide +kernel
theorem dX6_isNear_8 : decode cX6_isNear 8 = .ok (.iconst 1, 1) := by decide +kernel
theorem dX6_isNear_9 : decode cX6_isNear 9 = .ok (.aload_n 0, 1) := by decide +kernel
theorem dX6_isNear_10 : decode cX6_isNear 10 = .ok (.getfield 46, 3) := by decide +kernel
theorem dX6_isNear_13 : decode cX6_isNear 13 = .ok (.iload_n 2, 1) := by decide +kernel
theorem dX6_isNear_14 : decode cX6_isNear 14 = .ok (.iaload, 1) := by decide +kernel
theorem dX6_isNear_15 : decode cX6_isNear 15 = .ok (.ishl, 1) := by decide +kernel
theorem dX6_isNear_16 : decode cX6_isNear 16 = .ok (.ior, 1) := by decide +kernel
theorem dX6_isNear_17 : decode cX6_isNear 17 = .ok (.istore_n 3, 1) := by decide +kernel
theorem dX6_isNear_18 : decode cX6_isNear 18 = .ok (.iconst 0, 1) := by decide +kernel
theorem dX6_isNear_19 : decode cX6_isNear 19 = .ok (.istore 4, 2) := by decide +kernel
theorem dX6_isNear_21 : decode cX6_isNear 21 = .ok (.iload 4, 2) := by decide +kernel
theorem dX6_isNear_23 : decode cX6_isNear 23 = .ok (.aload_n 0, 1) := by decide +kernel
theorem dX6_isNear_24 : decode cX6_isNear 24 = .ok (.getfield 22, 3) := by decide +kernel
theorem dX6_isNear_27 : decode cX6_isNear 27 = .ok (.if_icmp .ge 50, 3) := by decide +kernel
theorem dX6_isNear_30 : decode cX6_isNear 30 = .ok (.iconst 1, 1) := by decide +kernel
theorem dX6_isNear_31 : decode cX6_isNear 31 = .ok (.aload_n 0, 1) := by decide +kernel
theorem dX6_isNear_32 : decode cX6_isNear 32 = .ok (.getfield 25, 3) := by decide +kernel
theorem dX6_isNear_35 : decode cX6_isNear 35 = .ok (.iload 4, 2) := by decide +kernel
theorem dX6_isNear_37 : decode cX6_isNear 37 = .ok (.iaload, 1) := by decide +kernel
theorem dX6_isNear_38 : decode cX6_isNear 38 = .ok (.ishl, 1) := by decide +kernel
theorem dX6_isNear_39 : decode cX6_isNear 39 = .ok (.iconst 1, 1) := by decide +kernel
theorem dX6_isNear_40 : decode cX6_isNear 40 = .ok (.aload_n 0, 1) := by decide +kernel
theorem dX6_isNear_41 : decode cX6_isNear 41 = .ok (.getfield 28, 3) := by decide +kernel
theorem dX6_isNear_44 : decode cX6_isNear 44 = .ok (.iload 4, 2) := by decide +kernel
theorem dX6_isNear_46 : decode cX6_isNear 46 = .ok (.iaload, 1) := by decide +kernel
theorem dX6_isNear_47 : decode cX6_isNear 47 = .ok (.ishl, 1) := by decide +kernel
theorem dX6_isNear_48 : decode cX6_isNear 48 = .ok (.ior, 1) := by decide +kernel
theorem dX6_isNear_49 : decode cX6_isNear 49 = .ok (.iload_n 3, 1) := by decide +kernel
theorem dX6_isNear_50 : decode cX6_isNear 50 = .ok (.if_icmp .ne 21, 3) := by decide +kernel
theorem dX6_isNear_53 : decode cX6_isNear 53 = .ok (.aload_n 0, 1) := by decide +kernel
theorem dX6_isNear_54 : decode cX6_isNear 54 = .ok (.getfield 31, 3) := by decide +kernel
theorem dX6_isNear_57 : decode cX6_isNear 57 = .ok (.iload 4, 2) := by decide +kernel
theorem dX6_isNear_59 : decode cX6_isNear 59 = .ok (.iaload, 1) := by decide +kernel
theorem dX6_isNear_60 : decode cX6_isNear 60 = .ok (.aload_n 0, 1) := by decide +kernel
theorem dX6_isNear_61 : decode cX6_isNear 61 = .ok (.getfield 37, 3) := by decide +kernel
theorem dX6_isNear_64 : decode cX6_isNear 64 = .ok (.iload_n 1, 1) := by decide +kernel
theorem dX6_isNear_65 : decode cX6_isNear 65 = .ok (.iaload, 1) := by decide +kernel
theorem dX6_isNear_66 : decode cX6_isNear 66 = .ok (.if_icmp .lt 5, 3) := by decide +kernel
theorem dX6_isNear_69 : decode cX6_isNear 69 = .ok (.iconst 1, 1) := by decide +kernel
theorem dX6_isNear_70 : decode cX6_isNear 70 = .ok (.ireturn, 1) := by decide +kernel
theorem dX6_isNear_71 : decode cX6_isNear 71 = .ok (.iinc 4 1, 3) := by decide +kernel
theorem dX6_isNear_74 : decode cX6_isNear 74 = .ok (.goto (-53), 3) := by decide +kernel
theorem dX6_isNear_77 : decode cX6_isNear 77 = .ok (.iconst 0, 1) := by decide +kernel
theorem dX6_isNear_78 : decode cX6_isNear 78 = .ok (.ireturn, 1) := by decide +kernel
theorem dX6_refusesTruce_0 : decode cX6_refusesTruce 0 = .ok (.aload_n 0, 1) := by decide +kernel
theorem dX6_refusesTruce_1 : decode cX6_refusesTruce 1 = .ok (.iload_n 1, 1) := by decide +kernel
theorem dX6_refusesTruce_2 : decode cX6_refusesTruce 2 = .ok (.iload_n 2, 1) := by decide +kernel
theorem dX6_refusesTruce_3 : decode cX6_refusesTruce 3 = .ok (.invokevirtual 109, 3) := by decide +kernel
theorem dX6_refusesTruce_6 : decode cX6_refusesTruce 6 = .ok (.ifCond .gt 26, 3) := by decide +kernel
theorem dX6_refusesTruce_9 : decode cX6_refusesTruce 9 = .ok (.aload_n 0, 1) := by decide +kernel
theorem dX6_refusesTruce_10 : decode cX6_refusesTruce 10 = .ok (.getfield 43, 3) := by decide +kernel
theorem dX6_refusesTruce_13 : decode cX6_refusesTruce 13 = .ok (.iload_n 1, 1) := by decide +kernel
theorem dX6_refusesTruce_14 : decode cX6_refusesTruce 14 = .ok (.iaload, 1) := by decide +kernel
theorem dX6_refusesTruce_15 : decode cX6_refusesTruce 15 = .ok (.iload_n 3, 1) := by decide +kernel
theorem dX6_refusesTruce_16 : decode cX6_refusesTruce 16 = .ok (.if_icmp .lt 16, 3) := by decide +kernel
theorem dX6_refusesTruce_19 : decode cX6_refusesTruce 19 = .ok (.aload_n 0, 1) := by decide +kernel
theorem dX6_refusesTruce_20 : decode cX6_refusesTruce 20 = .ok (.getfield 43, 3) := by decide +kernel
theorem dX6_refusesTruce_23 : decode cX6_refusesTruce 23 = .ok (.iload_n 2, 1) := by decide +kernel
theorem dX6_refusesTruce_24 : decode cX6_refusesTruce 24 = .ok (.iaload, 1) := by decide +kernel
theorem dX6_refusesTruce_25 : decode cX6_refusesTruce 25 = .ok (.iload_n 3, 1) := by decide +kernel
theorem dX6_refusesTruce_26 : decode cX6_refusesTruce 26 = .ok (.iadd, 1) := by decide +kernel
theorem dX6_refusesTruce_27 : decode cX6_refusesTruce 27 = .ok (.bipush 99, 2) := by decide +kernel
theorem dX6_refusesTruce_29 : decode cX6_refusesTruce 29 = .ok (.if_icmp .le 7, 3) := by decide +kernel
theorem dX6_refusesTruce_32 : decode cX6_refusesTruce 32 = .ok (.iconst 1, 1) := by decide +kernel
theorem dX6_refusesTruce_33 : decode cX6_refusesTruce 33 = .ok (.goto 4, 3) := by decide +kernel
theorem dX6_refusesTruce_36 : decode cX6_refusesTruce 36 = .ok (.iconst 0, 1) := by decide +kernel
theorem dX6_refusesTruce_37 : decode cX6_refusesTruce 37 = .ok (.ireturn, 1) := by decide +kernel
theorem dX6_refusesKitten_0 : decode cX6_refusesKitten 0 = .ok (.aload_n 0, 1) := by decide +kernel
theorem dX6_refusesKitten_1 : decode cX6_refusesKitten 1 = .ok (.getfield 64, 3) := by decide +kernel
theorem dX6_refusesKitten_4 : decode cX6_refusesKitten 4 = .ok (.getfield 135, 3) := by decide +kernel
theorem dX6_refusesKitten_7 : decode cX6_refusesKitten 7 = .ok (.ifCond .ne 19, 3) := by decide +kernel
theorem dX6_refusesKitten_10 : decode cX6_refusesKitten 10 = .ok (.aload_n 0, 1) := by decide +kernel
theorem dX6_refusesKitten_11 : decode cX6_refusesKitten 11 = .ok (.getfield 34, 3) := by decide +kernel
theorem dX6_refusesKitten_14 : decode cX6_refusesKitten 14 = .ok (.ifCond .eq 12, 3) := by decide +kernel
theorem dX6_refusesKitten_17 : decode cX6_refusesKitten 17 = .ok (.aload_n 0, 1) := by decide +kernel
theorem dX6_refusesKitten_18 : decode cX6_refusesKitten 18 = .ok (.getfield 34, 3) := by decide +kernel
theorem dX6_refusesKitten_21 : decode cX6_refusesKitten 21 = .ok (.bipush 8, 2) := by decide +kernel
theorem dX6_refusesKitten_23 : decode cX6_refusesKitten 23 = .ok (.if_icmp .lt 7, 3) := by decide +kernel
theorem dX6_refusesKitten_26 : decode cX6_refusesKitten 26 = .ok (.iconst 1, 1) := by decide +kernel
theorem dX6_refusesKitten_27 : decode cX6_refusesKitten 27 = .ok (.goto 4, 3) := by decide +kernel
theorem dX6_refusesKitten_30 : decode cX6_refusesKitten 30 = .ok (.iconst 0, 1) := by decide +kernel
theorem dX6_refusesKitten_31 : decode cX6_refusesKitten 31 = .ok (.ireturn, 1) := by decide +kernel
theorem dX6_refusesVote_0 : decode cX6_refusesVote 0 = .ok (.aload_n 0, 1) := by decide +kernel
theorem dX6_refusesVote_1 : decode cX6_refusesVote 1 = .ok (.getfield 64, 3) := by decide +kernel
theorem dX6_refusesVote_4 : decode cX6_refusesVote 4 = .ok (.getfield 135, 3) := by decide +kernel
theorem dX6_refusesVote_7 : decode cX6_refusesVote 7 = .ok (.ifCond .eq 15, 3) := by decide +kernel
theorem dX6_refusesVote_10 : decode cX6_refusesVote 10 = .ok (.aload_n 0, 1) := by decide +kernel
theorem dX6_refusesVote_11 : decode cX6_refusesVote 11 = .ok (.getfield 64, 3) := by decide +kernel
theorem dX6_refusesVote_14 : decode cX6_refusesVote 14 = .ok (.getfield 139, 3) := by decide +kernel
theorem dX6_refusesVote_17 : decode cX6_refusesVote 17 = .ok (.iload_n 1, 1) := by decide +kernel
theorem dX6_refusesVote_18 : decode cX6_refusesVote 18 = .ok (.iaload, 1) := by decide +kernel
theorem dX6_refusesVote_19 : decode cX6_refusesVote 19 = .ok (.ifCond .eq 7, 3) := by decide +kernel
theorem dX6_refusesVote_22 : decode cX6_refusesVote 22 = .ok (.iconst 1, 1) := by decide +kernel
theorem dX6_refusesVote_23 : decode cX6_refusesVote 23 = .ok (.goto 4, 3) := by decide +kernel
theorem dX6_refusesVote_26 : decode cX6_refusesVote 26 = .ok (.iconst 0, 1) := by decide +kernel
theorem dX6_refusesVote_27 : decode cX6_refusesVote 27 = .ok (.ireturn, 1) := by decide +kernel
theorem dX6_refusesNights_0 : decode cX6_refusesNights 0 = .ok (.aload_n 0, 1) := by decide +kernel
theorem dX6_refusesNights_1 : decode cX6_refusesNights 1 = .ok (.getfield 52, 3) := by decide +kernel
theorem dX6_refusesNights_4 : decode cX6_refusesNights 4 = .ok (.iload_n 1, 1) := by decide +kernel
theorem dX6_refusesNights_5 : decode cX6_refusesNights 5 = .ok (.iadd, 1) := by decide +kernel
theorem dX6_refusesNights_6 : decode cX6_refusesNights 6 = .ok (.sipush 999, 3) := by decide +kernel
theorem dX6_refusesNights_9 : decode cX6_refusesNights 9 = .ok (.if_icmp .le 7, 3) := by decide +kernel
theorem dX6_refusesNights_12 : decode cX6_refusesNights 12 = .ok (.iconst 1, 1) := by decide +kernel
theorem dX6_refusesNights_13 : decode cX6_refusesNights 13 = .ok (.goto 4, 3) := by decide +kernel
theorem dX6_refusesNights_16 : decode cX6_refusesNights 16 = .ok (.iconst 0, 1) := by decide +kernel
theorem dX6_refusesNights_17 : decode cX6_refusesNights 17 = .ok (.ireturn, 1) := by decide +kernel
theorem dX6_putChimney_0 : decode cX6_putChimney 0 = .ok (.aload_n 0, 1) := by decide +kernel
theorem dX6_putChimney_1 : decode cX6_putChimney 1 = .ok (.getfield 15, 3) := by decide +kernel
theorem dX6_putChimney_4 : decode cX6_putChimney 4 = .ok (.aload_n 0, 1) := by decide +kernel
theorem dX6_putChimney_5 : decode cX6_putChimney 5 = .ok (.getfield 9, 3) := by decide +kernel
theorem dX6_putChimney_8 : decode cX6_putChimney 8 = .ok (.iload_n 1, 1) := by decide +kernel
theorem dX6_putChimney_9 : decode cX6_putChimney 9 = .ok (.iastore, 1) := by decide +kernel
theorem dX6_putChimney_10 : decode cX6_putChimney 10 = .ok (.aload_n 0, 1) := by decide +kernel
theorem dX6_putChimney_11 : decode cX6_putChimney 11 = .ok (.getfield 19, 3) := by decide +kernel
theorem dX6_putChimney_14 : decode cX6_putChimney 14 = .ok (.aload_n 0, 1) := by decide +kernel
theorem dX6_putChimney_15 : decode cX6_putChimney 15 = .ok (.getfield 9, 3) := by decide +kernel
theorem dX6_putChimney_18 : decode cX6_putChimney 18 = .ok (.iconst (-1), 1) := by decide +kernel
theorem dX6_putChimney_19 : decode cX6_putChimney 19 = .ok (.iastore, 1) := by decide +kernel
theorem dX6_putChimney_20 : decode cX6_putChimney 20 = .ok (.aload_n 0, 1) := by decide +kernel
theorem dX6_putChimney_21 : decode cX6_putChimney 21 = .ok (.dup, 1) := by decide +kernel
theorem dX6_putChimney_22 : decode cX6_putChimney 22 = .ok (.getfield 9, 3) := by decide +kernel
theorem dX6_putChimney_25 : decode cX6_putChimney 25 = .ok (.iconst 1, 1) := by decide +kernel
theorem dX6_putChimney_26 : decode cX6_putChimney 26 = .ok (.iadd, 1) := by decide +kernel
theorem dX6_putChimney_27 : decode cX6_putChimney 27 = .ok (.putfield 9, 3) := by decide +kernel
theorem dX6_putChimney_30 : decode cX6_putChimney 30 = .ok (.aload_n 0, 1) := by decide +kernel
theorem dX6_putChimney_31 : decode cX6_putChimney 31 = .ok (.getfield 9, 3) := by decide +kernel
theorem dX6_putChimney_34 : decode cX6_putChimney 34 = .ok (.iconst 1, 1) := by decide +kernel
theorem dX6_putChimney_35 : decode cX6_putChimney 35 = .ok (.isub, 1) := by decide +kernel
theorem dX6_putChimney_36 : decode cX6_putChimney 36 = .ok (.ireturn, 1) := by decide +kernel
theorem dX6_putGutter_0 : decode cX6_putGutter 0 = .ok (.aload_n 0, 1) := by decide +kernel
theorem dX6_putGutter_1 : decode cX6_putGutter 1 = .ok (.getfield 25, 3) := by decide +kernel
theorem dX6_putGutter_4 : decode cX6_putGutter 4 = .ok (.aload_n 0, 1) := by decide +kernel
theorem dX6_putGutter_5 : decode cX6_putGutter 5 = .ok (.getfield 22, 3) := by decide +kernel
theorem dX6_putGutter_8 : decode cX6_putGutter 8 = .ok (.iload_n 1, 1) := by decide +kernel
theorem dX6_putGutter_9 : decode cX6_putGutter 9 = .ok (.iastore, 1) := by decide +kernel
theorem dX6_putGutter_10 : decode cX6_putGutter 10 = .ok (.aload_n 0, 1) := by decide +kernel
theorem dX6_putGutter_11 : decode cX6_putGutter 11 = .ok (.getfield 28, 3) := by decide +kernel
theorem dX6_putGutter_14 : decode cX6_putGutter 14 = .ok (.aload_n 0, 1) := by decide +kernel
theorem dX6_putGutter_15 : decode cX6_putGutter 15 = .ok (.getfield 22, 3) := by decide +kernel
theorem dX6_putGutter_18 : decode cX6_putGutter 18 = .ok (.iload_n 2, 1) := by decide +kernel
theorem dX6_putGutter_19 : decode cX6_putGutter 19 = .ok (.iastore, 1) := by decide +kernel
theorem dX6_putGutter_20 : decode cX6_putGutter 20 = .ok (.aload_n 0, 1) := by decide +kernel
theorem dX6_putGutter_21 : decode cX6_putGutter 21 = .ok (.getfield 31, 3) := by decide +kernel
theorem dX6_putGutter_24 : decode cX6_putGutter 24 = .ok (.aload_n 0, 1) := by decide +kernel
theorem dX6_putGutter_25 : decode cX6_putGutter 25 = .ok (.getfield 22, 3) := by decide +kernel
theorem dX6_putGutter_28 : decode cX6_putGutter 28 = .ok (.iload_n 3, 1) := by decide +kernel
theorem dX6_putGutter_29 : decode cX6_putGutter 29 = .ok (.iastore, 1) := by decide +kernel
theorem dX6_putGutter_30 : decode cX6_putGutter 30 = .ok (.aload_n 0, 1) := by decide +kernel
theorem dX6_putGutter_31 : decode cX6_putGutter 31 = .ok (.dup, 1) := by decide +kernel
theorem dX6_putGutter_32 : decode cX6_putGutter 32 = .ok (.getfield 22, 3) := by decide +kernel
theorem dX6_putGutter_35 : decode cX6_putGutter 35 = .ok (.iconst 1, 1) := by decide +kernel
theorem dX6_putGutter_36 : decode cX6_putGutter 36 = .ok (.iadd, 1) := by decide +kernel
theorem dX6_putGutter_37 : decode cX6_putGutter 37 = .ok (.putfield 22, 3) := by decide +kernel
theorem dX6_putGutter_40 : decode cX6_putGutter 40 = .ok (.aload_n 0, 1) := by decide +kernel
theorem dX6_putGutter_41 : decode cX6_putGutter 41 = .ok (.getfield 22, 3) := by decide +kernel
theorem dX6_putGutter_44 : decode cX6_putGutter 44 = .ok (.iconst 1, 1) := by decide +kernel
theorem dX6_putGutter_45 : decode cX6_putGutter 45 = .ok (.isub, 1) := by decide +kernel
theorem dX6_putGutter_46 : decode cX6_putGutter 46 = .ok (.ireturn, 1) := by decide +kernel
theorem dX6_putCat_0 : decode cX6_putCat 0 = .ok (.aload_n 0, 1) := by decide +kernel
theorem dX6_putCat_1 : decode cX6_putCat 1 = .ok (.getfield 37, 3) := by decide +kernel
theorem dX6_putCat_4 : decode cX6_putCat 4 = .ok (.aload_n 0, 1) := by decide +kernel
theorem dX6_putCat_5 : decode cX6_putCat 5 = .ok (.getfield 34, 3) := by decide +kernel
theorem dX6_putCat_8 : decode cX6_putCat 8 = .ok (.iload_n 2, 1) := by decide +kernel
theorem dX6_putCat_9 : decode cX6_putCat 9 = .ok (.iastore, 1) := by decide +kernel
theorem dX6_putCat_10 : decode cX6_putCat 10 = .ok (.aload_n 0, 1) := by decide +kernel
theorem dX6_putCat_11 : decode cX6_putCat 11 = .ok (.getfield 40, 3) := by decide +kernel
theorem dX6_putCat_14 : decode cX6_putCat 14 = .ok (.aload_n 0, 1) := by decide +kernel
theorem dX6_putCat_15 : decode cX6_putCat 15 = .ok (.getfield 34, 3) := by decide +kernel
theorem dX6_putCat_18 : decode cX6_putCat 18 = .ok (.iload_n 3, 1) := by decide +kernel
theorem dX6_putCat_19 : decode cX6_putCat 19 = .ok (.iastore, 1) := by decide +kernel
theorem dX6_putCat_20 : decode cX6_putCat 20 = .ok (.aload_n 0, 1) := by decide +kernel
theorem dX6_putCat_21 : decode cX6_putCat 21 = .ok (.getfield 43, 3) := by decide +kernel
theorem dX6_putCat_24 : decode cX6_putCat 24 = .ok (.aload_n 0, 1) := by decide +kernel
theorem dX6_putCat_25 : decode cX6_putCat 25 = .ok (.getfield 34, 3) := by decide +kernel
theorem dX6_putCat_28 : decode cX6_putCat 28 = .ok (.iconst 5, 1) := by decide +kernel
theorem dX6_putCat_29 : decode cX6_putCat 29 = .ok (.iastore, 1) := by decide +kernel
theorem dX6_putCat_30 : decode cX6_putCat 30 = .ok (.aload_n 0, 1) := by decide +kernel
theorem dX6_putCat_31 : decode cX6_putCat 31 = .ok (.getfield 46, 3) := by decide +kernel
theorem dX6_putCat_34 : decode cX6_putCat 34 = .ok (.aload_n 0, 1) := by decide +kernel
theorem dX6_putCat_35 : decode cX6_putCat 35 = .ok (.getfield 34, 3) := by decide +kernel
theorem dX6_putCat_38 : decode cX6_putCat 38 = .ok (.iload_n 1, 1) := by decide +kernel
theorem dX6_putCat_39 : decode cX6_putCat 39 = .ok (.iastore, 1) := by decide +kernel
theorem dX6_putCat_40 : decode cX6_putCat 40 = .ok (.aload_n 0, 1) := by decide +kernel
theorem dX6_putCat_41 : decode cX6_putCat 41 = .ok (.dup, 1) := by decide +kernel
theorem dX6_putCat_42 : decode cX6_putCat 42 = .ok (.getfield 34, 3) := by decide +kernel
theorem dX6_putCat_45 : decode cX6_putCat 45 = .ok (.iconst 1, 1) := by decide +kernel
theorem dX6_putCat_46 : decode cX6_putCat 46 = .ok (.iadd, 1) := by decide +kernel
theorem dX6_putCat_47 : decode cX6_putCat 47 = .ok (.putfield 34, 3) := by decide +kernel
theorem dX6_putCat_50 : decode cX6_putCat 50 = .ok (.aload_n 0, 1) := by decide +kernel
theorem dX6_putCat_51 : decode cX6_putCat 51 = .ok (.getfield 34, 3) := by decide +kernel
theorem dX6_putCat_54 : decode cX6_putCat 54 = .ok (.iconst 1, 1) := by decide +kernel
theorem dX6_putCat_55 : decode cX6_putCat 55 = .ok (.isub, 1) := by decide +kernel
theorem dX6_putCat_56 : decode cX6_putCat 56 = .ok (.ireturn, 1) := by decide +kernel
theorem dX6_walk_0 : decode cX6_walk 0 = .ok (.aload_n 0, 1) := by decide +kernel
theorem dX6_walk_1 : decode cX6_walk 1 = .ok (.getfield 46, 3) := by decide +kernel
theorem dX6_walk_4 : decode cX6_walk 4 = .ok (.iload_n 1, 1) := by decide +kernel
theorem dX6_walk_5 : decode cX6_walk 5 = .ok (.aload_n 0, 1) := by decide +kernel
theorem dX6_walk_6 : decode cX6_walk 6 = .ok (.iload_n 1, 1) := by decide +kernel
theorem dX6_walk_7 : decode cX6_walk 7 = .ok (.iload_n 2, 1) := by decide +kernel
theorem dX6_walk_8 : decode cX6_walk 8 = .ok (.invokevirtual 123, 3) := by decide +kernel
theorem dX6_walk_11 : decode cX6_walk 11 = .ok (.iastore, 1) := by decide +kernel
theorem dX6_walk_12 : decode cX6_walk 12 = .ok (.aload_n 0, 1) := by decide +kernel
theorem dX6_walk_13 : decode cX6_walk 13 = .ok (.getfield 46, 3) := by decide +kernel
theorem dX6_walk_16 : decode cX6_walk 16 = .ok (.iload_n 1, 1) := by decide +kernel
theorem dX6_walk_17 : decode cX6_walk 17 = .ok (.iaload, 1) := by decide +kernel
theorem dX6_walk_18 : decode cX6_walk 18 = .ok (.ireturn, 1) := by decide +kernel
theorem dX6_takeSeat_0 : decode cX6_takeSeat 0 = .ok (.aload_n 0, 1) := by decide +kernel
theorem dX6_takeSeat_1 : decode cX6_takeSeat 1 = .ok (.getfield 19, 3) := by decide +kernel
theorem dX6_takeSeat_4 : decode cX6_takeSeat 4 = .ok (.aload_n 0, 1) := by decide +kernel
theorem dX6_takeSeat_5 : decode cX6_takeSeat 5 = .ok (.getfield 46, 3) := by decide +kernel
theorem dX6_takeSeat_8 : decode cX6_takeSeat 8 = .ok (.iload_n 1, 1) := by decide +kernel
theorem dX6_takeSeat_9 : decode cX6_takeSeat 9 = .ok (.iaload, 1) := by decide +kernel
theorem dX6_takeSeat_10 : decode cX6_takeSeat 10 = .ok (.iload_n 1, 1) := by decide +kernel
theorem dX6_takeSeat_11 : decode cX6_takeSeat 11 = .ok (.iastore, 1) := by decide +kernel
theorem dX6_takeSeat_12 : decode cX6_takeSeat 12 = .ok (.aload_n 0, 1) := by decide +kernel
theorem dX6_takeSeat_13 : decode cX6_takeSeat 13 = .ok (.iload_n 1, 1) := by decide +kernel
theorem dX6_takeSeat_14 : decode cX6_takeSeat 14 = .ok (.invokevirtual 95, 3) := by decide +kernel
theorem dX6_takeSeat_17 : decode cX6_takeSeat 17 = .ok (.invokestatic 98, 3) := by decide +kernel
theorem dX6_takeSeat_20 : decode cX6_takeSeat 20 = .ok (.ireturn, 1) := by decide +kernel
theorem dX6_release_0 : decode cX6_release 0 = .ok (.aload_n 0, 1) := by decide +kernel
theorem dX6_release_1 : decode cX6_release 1 = .ok (.getfield 19, 3) := by decide +kernel
theorem dX6_release_4 : decode cX6_release 4 = .ok (.iload_n 1, 1) := by decide +kernel
theorem dX6_release_5 : decode cX6_release 5 = .ok (.iaload, 1) := by decide +kernel
theorem dX6_release_6 : decode cX6_release 6 = .ok (.istore_n 2, 1) := by decide +kernel
theorem dX6_release_7 : decode cX6_release 7 = .ok (.aload_n 0, 1) := by decide +kernel
theorem dX6_release_8 : decode cX6_release 8 = .ok (.getfield 19, 3) := by decide +kernel
theorem dX6_release_11 : decode cX6_release 11 = .ok (.iload_n 1, 1) := by decide +kernel
theorem dX6_release_12 : decode cX6_release 12 = .ok (.iconst (-1), 1) := by decide +kernel
theorem dX6_release_13 : decode cX6_release 13 = .ok (.iastore, 1) := by decide +kernel
theorem dX6_release_14 : decode cX6_release 14 = .ok (.iload_n 2, 1) := by decide +kernel
theorem dX6_release_15 : decode cX6_release 15 = .ok (.ireturn, 1) := by decide +kernel
theorem dX6_driveAway_0 : decode cX6_driveAway 0 = .ok (.aload_n 0, 1) := by decide +kernel
theorem dX6_driveAway_1 : decode cX6_driveAway 1 = .ok (.getfield 46, 3) := by decide +kernel
theorem dX6_driveAway_4 : decode cX6_driveAway 4 = .ok (.iload_n 2, 1) := by decide +kernel
theorem dX6_driveAway_5 : decode cX6_driveAway 5 = .ok (.iaload, 1) := by decide +kernel
theorem dX6_driveAway_6 : decode cX6_driveAway 6 = .ok (.istore_n 3, 1) := by decide +kernel
theorem dX6_driveAway_7 : decode cX6_driveAway 7 = .ok (.aload_n 0, 1) := by decide +kernel
theorem dX6_driveAway_8 : decode cX6_driveAway 8 = .ok (.getfield 46, 3) := by decide +kernel
theorem dX6_driveAway_11 : decode cX6_driveAway 11 = .ok (.iload_n 2, 1) := by decide +kernel
theorem dX6_driveAway_12 : decode cX6_driveAway 12 = .ok (.aload_n 0, 1) := by decide +kernel
theorem dX6_driveAway_13 : decode cX6_driveAway 13 = .ok (.getfield 46, 3) := by decide +kernel
theorem dX6_driveAway_16 : decode cX6_driveAway 16 = .ok (.iload_n 1, 1) := by decide +kernel
theorem dX6_driveAway_17 : decode cX6_driveAway 17 = .ok (.iaload, 1) := by decide +kernel
theorem dX6_driveAway_18 : decode cX6_driveAway 18 = .ok (.iastore, 1) := by decide +kernel
theorem dX6_driveAway_19 : decode cX6_driveAway 19 = .ok (.aload_n 0, 1) := by decide +kernel
theorem dX6_driveAway_20 : decode cX6_driveAway 20 = .ok (.getfield 46, 3) := by decide +kernel
theorem dX6_driveAway_23 : decode cX6_driveAway 23 = .ok (.iload_n 1, 1) := by decide +kernel
theorem dX6_driveAway_24 : decode cX6_driveAway 24 = .ok (.iload_n 3, 1) := by decide +kernel
theorem dX6_driveAway_25 : decode cX6_driveAway 25 = .ok (.iastore, 1) := by decide +kernel
theorem dX6_driveAway_26 : decode cX6_driveAway 26 = .ok (.aload_n 0, 1) := by decide +kernel
theorem dX6_driveAway_27 : decode cX6_driveAway 27 = .ok (.getfield 19, 3) := by decide +kernel
theorem dX6_driveAway_30 : decode cX6_driveAway 30 = .ok (.iload_n 3, 1) := by decide +kernel
theorem dX6_driveAway_31 : decode cX6_driveAway 31 = .ok (.iaload, 1) := by decide +kernel
theorem dX6_driveAway_32 : decode cX6_driveAway 32 = .ok (.iload_n 2, 1) := by decide +kernel
theorem dX6_driveAway_33 : decode cX6_driveAway 33 = .ok (.if_icmp .ne 22, 3) := by decide +kernel
theorem dX6_driveAway_36 : decode cX6_driveAway 36 = .ok (.aload_n 0, 1) := by decide +kernel
theorem dX6_driveAway_37 : decode cX6_driveAway 37 = .ok (.getfield 19, 3) := by decide +kernel
theorem dX6_driveAway_40 : decode cX6_driveAway 40 = .ok (.iload_n 3, 1) := by decide +kernel
theorem dX6_driveAway_41 : decode cX6_driveAway 41 = .ok (.aload_n 0, 1) := by decide +kernel
theorem dX6_driveAway_42 : decode cX6_driveAway 42 = .ok (.iload_n 1, 1) := by decide +kernel
theorem dX6_driveAway_43 : decode cX6_driveAway 43 = .ok (.invokevirtual 126, 3) := by decide +kernel
theorem dX6_driveAway_46 : decode cX6_driveAway 46 = .ok (.ifCond .eq 7, 3) := by decide +kernel
theorem dX6_driveAway_49 : decode cX6_driveAway 49 = .ok (.iconst (-1), 1) := by decide +kernel
theorem dX6_driveAway_50 : decode cX6_driveAway 50 = .ok (.goto 4, 3) := by decide +kernel
theorem dX6_driveAway_53 : decode cX6_driveAway 53 = .ok (.iload_n 1, 1) := by decide +kernel
theorem dX6_driveAway_54 : decode cX6_driveAway 54 = .ok (.iastore, 1) := by decide +kernel
theorem dX6_driveAway_55 : decode cX6_driveAway 55 = .ok (.aload_n 0, 1) := by decide +kernel
theorem dX6_driveAway_56 : decode cX6_driveAway 56 = .ok (.getfield 43, 3) := by decide +kernel
theorem dX6_driveAway_59 : decode cX6_driveAway 59 = .ok (.iload_n 2, 1) := by decide +kernel
theorem dX6_driveAway_60 : decode cX6_driveAway 60 = .ok (.iaload, 1) := by decide +kernel
theorem dX6_driveAway_61 : decode cX6_driveAway 61 = .ok (.ifCond .le 34, 3) := by decide +kernel
theorem dX6_driveAway_64 : decode cX6_driveAway 64 = .ok (.aload_n 0, 1) := by decide +kernel
theorem dX6_driveAway_65 : decode cX6_driveAway 65 = .ok (.getfield 43, 3) := by decide +kernel
theorem dX6_driveAway_68 : decode cX6_driveAway 68 = .ok (.iload_n 1, 1) := by decide +kernel
theorem dX6_driveAway_69 : decode cX6_driveAway 69 = .ok (.iaload, 1) := by decide +kernel
theorem dX6_driveAway_70 : decode cX6_driveAway 70 = .ok (.bipush 99, 2) := by decide +kernel
theorem dX6_driveAway_72 : decode cX6_driveAway 72 = .ok (.if_icmp .ge 23, 3) := by decide +kernel
theorem dX6_driveAway_75 : decode cX6_driveAway 75 = .ok (.aload_n 0, 1) := by decide +kernel
theorem dX6_driveAway_76 : decode cX6_driveAway 76 = .ok (.getfield 43, 3) := by decide +kernel
theorem dX6_driveAway_79 : decode cX6_driveAway 79 = .ok (.iload_n 2, 1) := by decide +kernel
theorem dX6_driveAway_80 : decode cX6_driveAway 80 = .ok (.dup2, 1) := by decide +kernel
theorem dX6_driveAway_81 : decode cX6_driveAway 81 = .ok (.iaload, 1) := by decide +kernel
theorem dX6_driveAway_82 : decode cX6_driveAway 82 = .ok (.iconst 1, 1) := by decide +kernel
theorem dX6_driveAway_83 : decode cX6_driveAway 83 = .ok (.isub, 1) := by decide +kernel
theorem dX6_driveAway_84 : decode cX6_driveAway 84 = .ok (.iastore, 1) := by decide +kernel
theorem dX6_driveAway_85 : decode cX6_driveAway 85 = .ok (.aload_n 0, 1) := by decide +kernel
theorem dX6_driveAway_86 : decode cX6_driveAway 86 = .ok (.getfield 43, 3) := by decide +kernel
theorem dX6_driveAway_89 : decode cX6_driveAway 89 = .ok (.iload_n 1, 1) := by decide +kernel
theorem dX6_driveAway_90 : decode cX6_driveAway 90 = .ok (.dup2, 1) := by decide +kernel
theorem dX6_driveAway_91 : decode cX6_driveAway 91 = .ok (.iaload, 1) := by decide +kernel
theorem dX6_driveAway_92 : decode cX6_driveAway 92 = .ok (.iconst 1, 1) := by decide +kernel
theorem dX6_driveAway_93 : decode cX6_driveAway 93 = .ok (.iadd, 1) := by decide +kernel
theorem dX6_driveAway_94 : decode cX6_driveAway 94 = .ok (.iastore, 1) := by decide +kernel
theorem dX6_driveAway_95 : decode cX6_driveAway 95 = .ok (.aload_n 0, 1) := by decide +kernel
theorem dX6_driveAway_96 : decode cX6_driveAway 96 = .ok (.getfield 19, 3) := by decide +kernel
theorem dX6_driveAway_99 : decode cX6_driveAway 99 = .ok (.iload_n 3, 1) := by decide +kernel
theorem dX6_driveAway_100 : decode cX6_driveAway 100 = .ok (.iaload, 1) := by decide +kernel
theorem dX6_driveAway_101 : decode cX6_driveAway 101 = .ok (.iload_n 1, 1) := by decide +kernel
theorem dX6_driveAway_102 : decode cX6_driveAway 102 = .ok (.if_icmp .ne 7, 3) := by decide +kernel
theorem dX6_driveAway_105 : decode cX6_driveAway 105 = .ok (.iconst 1, 1) := by decide +kernel
theorem dX6_driveAway_106 : decode cX6_driveAway 106 = .ok (.goto 4, 3) := by decide +kernel
theorem dX6_driveAway_109 : decode cX6_driveAway 109 = .ok (.iconst 0, 1) := by decide +kernel
theorem dX6_driveAway_110 : decode cX6_driveAway 110 = .ok (.ireturn, 1) := by decide +kernel
theorem dX6_agreeTruce_0 : decode cX6_agreeTruce 0 = .ok (.aload_n 0, 1) := by decide +kernel
theorem dX6_agreeTruce_1 : decode cX6_agreeTruce 1 = .ok (.getfield 43, 3) := by decide +kernel
theorem dX6_agreeTruce_4 : decode cX6_agreeTruce 4 = .ok (.iload_n 1, 1) := by decide +kernel
theorem dX6_agreeTruce_5 : decode cX6_agreeTruce 5 = .ok (.dup2, 1) := by decide +kernel
theorem dX6_agreeTruce_6 : decode cX6_agreeTruce 6 = .ok (.iaload, 1) := by decide +kernel
theorem dX6_agreeTruce_7 : decode cX6_agreeTruce 7 = .ok (.iload_n 3, 1) := by decide +kernel
theorem dX6_agreeTruce_8 : decode cX6_agreeTruce 8 = .ok (.isub, 1) := by decide +kernel
theorem dX6_agreeTruce_9 : decode cX6_agreeTruce 9 = .ok (.iastore, 1) := by decide +kernel
theorem dX6_agreeTruce_10 : decode cX6_agreeTruce 10 = .ok (.aload_n 0, 1) := by decide +kernel
theorem dX6_agreeTruce_11 : decode cX6_agreeTruce 11 = .ok (.getfield 43, 3) := by decide +kernel
theorem dX6_agreeTruce_14 : decode cX6_agreeTruce 14 = .ok (.iload_n 2, 1) := by decide +kernel
theorem dX6_agreeTruce_15 : decode cX6_agreeTruce 15 = .ok (.dup2, 1) := by decide +kernel
theorem dX6_agreeTruce_16 : decode cX6_agreeTruce 16 = .ok (.iaload, 1) := by decide +kernel
theorem dX6_agreeTruce_17 : decode cX6_agreeTruce 17 = .ok (.iload_n 3, 1) := by decide +kernel
theorem dX6_agreeTruce_18 : decode cX6_agreeTruce 18 = .ok (.iadd, 1) := by decide +kernel
theorem dX6_agreeTruce_19 : decode cX6_agreeTruce 19 = .ok (.iastore, 1) := by decide +kernel
theorem dX6_agreeTruce_20 : decode cX6_agreeTruce 20 = .ok (.aload_n 0, 1) := by decide +kernel
theorem dX6_agreeTruce_21 : decode cX6_agreeTruce 21 = .ok (.getfield 52, 3) := by decide +kernel
theorem dX6_agreeTruce_24 : decode cX6_agreeTruce 24 = .ok (.iload 4, 2) := by decide +kernel
theorem dX6_agreeTruce_26 : decode cX6_agreeTruce 26 = .ok (.iadd, 1) := by decide +kernel
theorem dX6_agreeTruce_27 : decode cX6_agreeTruce 27 = .ok (.istore 5, 2) := by decide +kernel
theorem dX6_agreeTruce_29 : decode cX6_agreeTruce 29 = .ok (.aload_n 0, 1) := by decide +kernel
theorem dX6_agreeTruce_30 : decode cX6_agreeTruce 30 = .ok (.getfield 49, 3) := by decide +kernel
theorem dX6_agreeTruce_33 : decode cX6_agreeTruce 33 = .ok (.iload_n 1, 1) := by decide +kernel
theorem dX6_agreeTruce_34 : decode cX6_agreeTruce 34 = .ok (.bipush 8, 2) := by decide +kernel
theorem dX6_agreeTruce_36 : decode cX6_agreeTruce 36 = .ok (.imul, 1) := by decide +kernel
theorem dX6_agreeTruce_37 : decode cX6_agreeTruce 37 = .ok (.iload_n 2, 1) := by decide +kernel
theorem dX6_agreeTruce_38 : decode cX6_agreeTruce 38 = .ok (.iadd, 1) := by decide +kernel
theorem dX6_agreeTruce_39 : decode cX6_agreeTruce 39 = .ok (.iload 5, 2) := by decide +kernel
theorem dX6_agreeTruce_41 : decode cX6_agreeTruce 41 = .ok (.iastore, 1) := by decide +kernel
theorem dX6_agreeTruce_42 : decode cX6_agreeTruce 42 = .ok (.aload_n 0, 1) := by decide +kernel
theorem dX6_agreeTruce_43 : decode cX6_agreeTruce 43 = .ok (.getfield 49, 3) := by decide +kernel
theorem dX6_agreeTruce_46 : decode cX6_agreeTruce 46 = .ok (.iload_n 2, 1) := by decide +kernel
theorem dX6_agreeTruce_47 : decode cX6_agreeTruce 47 = .ok (.bipush 8, 2) := by decide +kernel
theorem dX6_agreeTruce_49 : decode cX6_agreeTruce 49 = .ok (.imul, 1) := by decide +kernel
theorem dX6_agreeTruce_50 : decode cX6_agreeTruce 50 = .ok (.iload_n 1, 1) := by decide +kernel
theorem dX6_agreeTruce_51 : decode cX6_agreeTruce 51 = .ok (.iadd, 1) := by decide +kernel
theorem dX6_agreeTruce_52 : decode cX6_agreeTruce 52 = .ok (.iload 5, 2) := by decide +kernel
theorem dX6_agreeTruce_54 : decode cX6_agreeTruce 54 = .ok (.iastore, 1) := by decide +kernel
theorem dX6_agreeTruce_55 : decode cX6_agreeTruce 55 = .ok (.iload 5, 2) := by decide +kernel
theorem dX6_agreeTruce_57 : decode cX6_agreeTruce 57 = .ok (.ireturn, 1) := by decide +kernel
theorem dX6_takeVote_0 : decode cX6_takeVote 0 = .ok (.aload_n 0, 1) := by decide +kernel
theorem dX6_takeVote_1 : decode cX6_takeVote 1 = .ok (.getfield 64, 3) := by decide +kernel
theorem dX6_takeVote_4 : decode cX6_takeVote 4 = .ok (.getfield 139, 3) := by decide +kernel
theorem dX6_takeVote_7 : decode cX6_takeVote 7 = .ok (.iload_n 1, 1) := by decide +kernel
theorem dX6_takeVote_8 : decode cX6_takeVote 8 = .ok (.iload_n 2, 1) := by decide +kernel
theorem dX6_takeVote_9 : decode cX6_takeVote 9 = .ok (.ifCond .eq 7, 3) := by decide +kernel
theorem dX6_takeVote_12 : decode cX6_takeVote 12 = .ok (.iconst 1, 1) := by decide +kernel
theorem dX6_takeVote_13 : decode cX6_takeVote 13 = .ok (.goto 4, 3) := by decide +kernel
theorem dX6_takeVote_16 : decode cX6_takeVote 16 = .ok (.iconst 2, 1) := by decide +kernel
theorem dX6_takeVote_17 : decode cX6_takeVote 17 = .ok (.iastore, 1) := by decide +kernel
theorem dX6_takeVote_18 : decode cX6_takeVote 18 = .ok (.aload_n 0, 1) := by decide +kernel
theorem dX6_takeVote_19 : decode cX6_takeVote 19 = .ok (.getfield 64, 3) := by decide +kernel
theorem dX6_takeVote_22 : decode cX6_takeVote 22 = .ok (.iconst 1, 1) := by decide +kernel
theorem dX6_takeVote_23 : decode cX6_takeVote 23 = .ok (.invokevirtual 142, 3) := by decide +kernel
theorem dX6_takeVote_26 : decode cX6_takeVote 26 = .ok (.istore_n 3, 1) := by decide +kernel
theorem dX6_takeVote_27 : decode cX6_takeVote 27 = .ok (.aload_n 0, 1) := by decide +kernel
theorem dX6_takeVote_28 : decode cX6_takeVote 28 = .ok (.getfield 64, 3) := by decide +kernel
theorem dX6_takeVote_31 : decode cX6_takeVote 31 = .ok (.iconst 2, 1) := by decide +kernel
theorem dX6_takeVote_32 : decode cX6_takeVote 32 = .ok (.invokevirtual 142, 3) := by decide +kernel
theorem dX6_takeVote_35 : decode cX6_takeVote 35 = .ok (.istore 4, 2) := by decide +kernel
theorem dX6_takeVote_37 : decode cX6_takeVote 37 = .ok (.iload_n 3, 1) := by decide +kernel
theorem dX6_takeVote_38 : decode cX6_takeVote 38 = .ok (.iload 4, 2) := by decide +kernel
theorem dX6_takeVote_40 : decode cX6_takeVote 40 = .ok (.iadd, 1) := by decide +kernel
theorem dX6_takeVote_41 : decode cX6_takeVote 41 = .ok (.aload_n 0, 1) := by decide +kernel
theorem dX6_takeVote_42 : decode cX6_takeVote 42 = .ok (.getfield 34, 3) := by decide +kernel
theorem dX6_takeVote_45 : decode cX6_takeVote 45 = .ok (.if_icmp .ge 5, 3) := by decide +kernel
theorem dX6_takeVote_48 : decode cX6_takeVote 48 = .ok (.iconst 0, 1) := by decide +kernel
theorem dX6_takeVote_49 : decode cX6_takeVote 49 = .ok (.ireturn, 1) := by decide +kernel
theorem dX6_takeVote_50 : decode cX6_takeVote 50 = .ok (.aload_n 0, 1) := by decide +kernel
theorem dX6_takeVote_51 : decode cX6_takeVote 51 = .ok (.invokevirtual 145, 3) := by decide +kernel
theorem dX6_takeVote_54 : decode cX6_takeVote 54 = .ok (.istore 5, 2) := by decide +kernel
theorem dX6_takeVote_56 : decode cX6_takeVote 56 = .ok (.iload_n 3, 1) := by decide +kernel
theorem dX6_takeVote_57 : decode cX6_takeVote 57 = .ok (.iload 4, 2) := by decide +kernel
theorem dX6_takeVote_59 : decode cX6_takeVote 59 = .ok (.if_icmp .le 22, 3) := by decide +kernel
theorem dX6_takeVote_62 : decode cX6_takeVote 62 = .ok (.aload_n 0, 1) := by decide +kernel
theorem dX6_takeVote_63 : decode cX6_takeVote 63 = .ok (.getfield 34, 3) := by decide +kernel
theorem dX6_takeVote_66 : decode cX6_takeVote 66 = .ok (.bipush 8, 2) := by decide +kernel
theorem dX6_takeVote_68 : decode cX6_takeVote 68 = .ok (.if_icmp .ge 13, 3) := by decide +kernel
theorem dX6_takeVote_71 : decode cX6_takeVote 71 = .ok (.iload 5, 2) := by decide +kernel
theorem dX6_takeVote_73 : decode cX6_takeVote 73 = .ok (.iconst (-1), 1) := by decide +kernel
theorem dX6_takeVote_74 : decode cX6_takeVote 74 = .ok (.if_icmp .eq 7, 3) := by decide +kernel
theorem dX6_takeVote_77 : decode cX6_takeVote 77 = .ok (.iconst 1, 1) := by decide +kernel
theorem dX6_takeVote_78 : decode cX6_takeVote 78 = .ok (.goto 4, 3) := by decide +kernel
theorem dX6_takeVote_81 : decode cX6_takeVote 81 = .ok (.iconst 0, 1) := by decide +kernel
theorem dX6_takeVote_82 : decode cX6_takeVote 82 = .ok (.istore 6, 2) := by decide +kernel
theorem dX6_takeVote_84 : decode cX6_takeVote 84 = .ok (.iload 6, 2) := by decide +kernel
theorem dX6_takeVote_86 : decode cX6_takeVote 86 = .ok (.ifCond .eq 24, 3) := by decide +kernel
theorem dX6_takeVote_89 : decode cX6_takeVote 89 = .ok (.aload_n 0, 1) := by decide +kernel
theorem dX6_takeVote_90 : decode cX6_takeVote 90 = .ok (.iload 5, 2) := by decide +kernel
theorem dX6_takeVote_92 : decode cX6_takeVote 92 = .ok (.aload_n 0, 1) := by decide +kernel
theorem dX6_takeVote_93 : decode cX6_takeVote 93 = .ok (.getfield 64, 3) := by decide +kernel
theorem dX6_takeVote_96 : decode cX6_takeVote 96 = .ok (.getfield 149, 3) := by decide +kernel
theorem dX6_takeVote_99 : decode cX6_takeVote 99 = .ok (.aload_n 0, 1) := by decide +kernel
theorem dX6_takeVote_100 : decode cX6_takeVote 100 = .ok (.getfield 64, 3) := by decide +kernel
theorem dX6_takeVote_103 : decode cX6_takeVote 103 = .ok (.getfield 151, 3) := by decide +kernel
theorem dX6_takeVote_106 : decode cX6_takeVote 106 = .ok (.invokevirtual 153, 3) := by decide +kernel
theorem dX6_takeVote_109 : decode cX6_takeVote 109 = .ok (.pop, 1) := by decide +kernel
theorem dX6_takeVote_110 : decode cX6_takeVote 110 = .ok (.aload_n 0, 1) := by decide +kernel
theorem dX6_takeVote_111 : decode cX6_takeVote 111 = .ok (.getfield 64, 3) := by decide +kernel
theorem dX6_takeVote_114 : decode cX6_takeVote 114 = .ok (.invokevirtual 74, 3) := by decide +kernel
theorem dX6_takeVote_117 : decode cX6_takeVote 117 = .ok (.iload 6, 2) := by decide +kernel
theorem dX6_takeVote_119 : decode cX6_takeVote 119 = .ok (.ireturn, 1) := by decide +kernel
theorem dX6_spendNights_0 : decode cX6_spendNights 0 = .ok (.aload_n 0, 1) := by decide +kernel
theorem dX6_spendNights_1 : decode cX6_spendNights 1 = .ok (.invokevirtual 157, 3) := by decide +kernel
theorem dX6_spendNights_4 : decode cX6_spendNights 4 = .ok (.istore_n 2, 1) := by decide +kernel
theorem dX6_spendNights_5 : decode cX6_spendNights 5 = .ok (.iconst 0, 1) := by decide +kernel
theorem dX6_spendNights_6 : decode cX6_spendNights 6 = .ok (.istore_n 3, 1) := by decide +kernel
theorem dX6_spendNights_7 : decode cX6_spendNights 7 = .ok (.iload_n 3, 1) := by decide +kernel
theorem dX6_spendNights_8 : decode cX6_spendNights 8 = .ok (.iload_n 1, 1) := by decide +kernel
theorem dX6_spendNights_9 : decode cX6_spendNights 9 = .ok (.if_icmp .ge 80, 3) := by decide +kernel
theorem dX6_spendNights_12 : decode cX6_spendNights 12 = .ok (.aload_n 0, 1) := by decide +kernel
theorem dX6_spendNights_13 : decode cX6_spendNights 13 = .ok (.dup, 1) := by decide +kernel
theorem dX6_spendNights_14 : decode cX6_spendNights 14 = .ok (.getfield 52, 3) := by decide +kernel
theorem dX6_spendNights_17 : decode cX6_spendNights 17 = .ok (.iconst 1, 1) := by decide +kernel
theorem dX6_spendNights_18 : decode cX6_spendNights 18 = .ok (.iadd, 1) := by decide +kernel
theorem dX6_spendNights_19 : decode cX6_spendNights 19 = .ok (.putfield 52, 3) := by decide +kernel
theorem dX6_spendNights_22 : decode cX6_spendNights 22 = .ok (.iconst 0, 1) := by decide +kernel
theorem dX6_spendNights_23 : decode cX6_spendNights 23 = .ok (.istore 4, 2) := by decide +kernel
theorem dX6_spendNights_25 : decode cX6_spendNights 25 = .ok (.iload 4, 2) := by decide +kernel
theorem dX6_spendNights_27 : decode cX6_spendNights 27 = .ok (.aload_n 0, 1) := by decide +kernel
theorem dX6_spendNights_28 : decode cX6_spendNights 28 = .ok (.getfield 34, 3) := by decide +kernel
theorem dX6_spendNights_31 : decode cX6_spendNights 31 = .ok (.if_icmp .ge 52, 3) := by decide +kernel
theorem dX6_spendNights_34 : decode cX6_spendNights 34 = .ok (.aload_n 0, 1) := by decide +kernel
theorem dX6_spendNights_35 : decode cX6_spendNights 35 = .ok (.iload 4, 2) := by decide +kernel
theorem dX6_spendNights_37 : decode cX6_spendNights 37 = .ok (.aload_n 0, 1) := by decide +kernel
theorem dX6_spendNights_38 : decode cX6_spendNights 38 = .ok (.iload 4, 2) := by decide +kernel
theorem dX6_spendNights_40 : decode cX6_spendNights 40 = .ok (.aload_n 0, 1) := by decide +kernel
theorem dX6_spendNights_41 : decode cX6_spendNights 41 = .ok (.getfield 43, 3) := by decide +kernel
theorem dX6_spendNights_44 : decode cX6_spendNights 44 = .ok (.iload 4, 2) := by decide +kernel
theorem dX6_spendNights_46 : decode cX6_spendNights 46 = .ok (.iaload, 1) := by decide +kernel
theorem dX6_spendNights_47 : decode cX6_spendNights 47 = .ok (.invokevirtual 160, 3) := by decide +kernel
theorem dX6_spendNights_50 : decode cX6_spendNights 50 = .ok (.invokevirtual 163, 3) := by decide +kernel
theorem dX6_spendNights_53 : decode cX6_spendNights 53 = .ok (.aload_n 0, 1) := by decide +kernel
theorem dX6_spendNights_54 : decode cX6_spendNights 54 = .ok (.iload 4, 2) := by decide +kernel
theorem dX6_spendNights_56 : decode cX6_spendNights 56 = .ok (.aload_n 0, 1) := by decide +kernel
theorem dX6_spendNights_57 : decode cX6_spendNights 57 = .ok (.iload 4, 2) := by decide +kernel
theorem dX6_spendNights_59 : decode cX6_spendNights 59 = .ok (.aload_n 0, 1) := by decide +kernel
theorem dX6_spendNights_60 : decode cX6_spendNights 60 = .ok (.getfield 43, 3) := by decide +kernel
theorem dX6_spendNights_63 : decode cX6_spendNights 63 = .ok (.iload 4, 2) := by decide +kernel
theorem dX6_spendNights_65 : decode cX6_spendNights 65 = .ok (.iaload, 1) := by decide +kernel
theorem dX6_spendNights_66 : decode cX6_spendNights 66 = .ok (.aload_n 0, 1) := by decide +kernel
theorem dX6_spendNights_67 : decode cX6_spendNights 67 = .ok (.getfield 52, 3) := by decide +kernel
theorem dX6_spendNights_70 : decode cX6_spendNights 70 = .ok (.iload_n 2, 1) := by decide +kernel
theorem dX6_spendNights_71 : decode cX6_spendNights 71 = .ok (.invokevirtual 167, 3) := by decide +kernel
theorem dX6_spendNights_74 : decode cX6_spendNights 74 = .ok (.invokevirtual 163, 3) := by decide +kernel
theorem dX6_spendNights_77 : decode cX6_spendNights 77 = .ok (.iinc 4 1, 3) := by decide +kernel
theorem dX6_spendNights_80 : decode cX6_spendNights 80 = .ok (.goto (-55), 3) := by decide +kernel
theorem dX6_spendNights_83 : decode cX6_spendNights 83 = .ok (.iinc 3 1, 3) := by decide +kernel
theorem dX6_spendNights_86 : decode cX6_spendNights 86 = .ok (.goto (-79), 3) := by decide +kernel
theorem dX6_spendNights_89 : decode cX6_spendNights 89 = .ok (.aload_n 0, 1) := by decide +kernel
theorem dX6_spendNights_90 : decode cX6_spendNights 90 = .ok (.getfield 52, 3) := by decide +kernel
theorem dX6_spendNights_93 : decode cX6_spendNights 93 = .ok (.ireturn, 1) := by decide +kernel
theorem dX6_setFishInNight_0 : decode cX6_setFishInNight 0 = .ok (.iload_n 2, 1) := by decide +kernel
theorem dX6_setFishInNight_1 : decode cX6_setFishInNight 1 = .ok (.aload_n 0, 1) := by decide +kernel
theorem dX6_setFishInNight_2 : decode cX6_setFishInNight 2 = .ok (.getfield 43, 3) := by decide +kernel
theorem dX6_setFishInNight_5 : decode cX6_setFishInNight 5 = .ok (.iload_n 1, 1) := by decide +kernel
theorem dX6_setFishInNight_6 : decode cX6_setFishInNight 6 = .ok (.iaload, 1) := by decide +kernel
theorem dX6_setFishInNight_7 : decode cX6_setFishInNight 7 = .ok (.if_icmp .le 23, 3) := by decide +kernel
theorem dX6_setFishInNight_10 : decode cX6_setFishInNight 10 = .ok (.aload_n 0, 1) := by decide +kernel
theorem dX6_setFishInNight_11 : decode cX6_setFishInNight 11 = .ok (.dup, 1) := by decide +kernel
theorem dX6_setFishInNight_12 : decode cX6_setFishInNight 12 = .ok (.getfield 55, 3) := by decide +kernel
theorem dX6_setFishInNight_15 : decode cX6_setFishInNight 15 = .ok (.iload_n 2, 1) := by decide +kernel
theorem dX6_setFishInNight_16 : decode cX6_setFishInNight 16 = .ok (.aload_n 0, 1) := by decide +kernel
theorem dX6_setFishInNight_17 : decode cX6_setFishInNight 17 = .ok (.getfield 43, 3) := by decide +kernel
theorem dX6_setFishInNight_20 : decode cX6_setFishInNight 20 = .ok (.iload_n 1, 1) := by decide +kernel
theorem dX6_setFishInNight_21 : decode cX6_setFishInNight 21 = .ok (.iaload, 1) := by decide +kernel
theorem dX6_setFishInNight_22 : decode cX6_setFishInNight 22 = .ok (.isub, 1) := by decide +kernel
theorem dX6_setFishInNight_23 : decode cX6_setFishInNight 23 = .ok (.iadd, 1) := by decide +kernel
theorem dX6_setFishInNight_24 : decode cX6_setFishInNight 24 = .ok (.putfield 55, 3) := by decide +kernel
theorem dX6_setFishInNight_27 : decode cX6_setFishInNight 27 = .ok (.goto 20, 3) := by decide +kernel
theorem dX6_setFishInNight_30 : decode cX6_setFishInNight 30 = .ok (.aload_n 0, 1) := by decide +kernel
theorem dX6_setFishInNight_31 : decode cX6_setFishInNight 31 = .ok (.dup, 1) := by decide +kernel
theorem dX6_setFishInNight_32 : decode cX6_setFishInNight 32 = .ok (.getfield 58, 3) := by decide +kernel
theorem dX6_setFishInNight_35 : decode cX6_setFishInNight 35 = .ok (.aload_n 0, 1) := by decide +kernel
theorem dX6_setFishInNight_36 : decode cX6_setFishInNight 36 = .ok (.getfield 43, 3) := by decide +kernel
theorem dX6_setFishInNight_39 : decode cX6_setFishInNight 39 = .ok (.iload_n 1, 1) := by decide +kernel
theorem dX6_setFishInNight_40 : decode cX6_setFishInNight 40 = .ok (.iaload, 1) := by decide +kernel
theorem dX6_setFishInNight_41 : decode cX6_setFishInNight 41 = .ok (.iload_n 2, 1) := by decide +kernel
theorem dX6_setFishInNight_42 : decode cX6_setFishInNight 42 = .ok (.isub, 1) := by decide +kernel
theorem dX6_setFishInNight_43 : decode cX6_setFishInNight 43 = .ok (.iadd, 1) := by decide +kernel
theorem dX6_setFishInNight_44 : decode cX6_setFishInNight 44 = .ok (.putfield 58, 3) := by decide +kernel
theorem dX6_setFishInNight_47 : decode cX6_setFishInNight 47 = .ok (.aload_n 0, 1) := by decide +kernel
theorem dX6_setFishInNight_48 : decode cX6_setFishInNight 48 = .ok (.getfield 43, 3) := by decide +kernel
theorem dX6_setFishInNight_51 : decode cX6_setFishInNight 51 = .ok (.iload_n 1, 1) := by decide +kernel
theorem dX6_setFishInNight_52 : decode cX6_setFishInNight 52 = .ok (.iload_n 2, 1) := by decide +kernel
theorem dX6_setFishInNight_53 : decode cX6_setFishInNight 53 = .ok (.iastore, 1) := by decide +kernel
theorem dX6_setFishInNight_54 : decode cX6_setFishInNight 54 = .ok (.return_, 1) := by decide +kernel
theorem dX6_futureFish_0 : decode cX6_futureFish 0 = .ok (.aload_n 0, 1) := by decide +kernel
theorem dX6_futureFish_1 : decode cX6_futureFish 1 = .ok (.invokevirtual 157, 3) := by decide +kernel
theorem dX6_futureFish_4 : decode cX6_futureFish 4 = .ok (.istore_n 3, 1) := by decide +kernel
theorem dX6_futureFish_5 : decode cX6_futureFish 5 = .ok (.aload_n 0, 1) := by decide +kernel
theorem dX6_futureFish_6 : decode cX6_futureFish 6 = .ok (.getfield 43, 3) := by decide +kernel
theorem dX6_futureFish_9 : decode cX6_futureFish 9 = .ok (.iload_n 1, 1) := by decide +kernel
theorem dX6_futureFish_10 : decode cX6_futureFish 10 = .ok (.iaload, 1) := by decide +kernel
theorem dX6_futureFish_11 : decode cX6_futureFish 11 = .ok (.istore 4, 2) := by decide +kernel
theorem dX6_futureFish_13 : decode cX6_futureFish 13 = .ok (.iconst 1, 1) := by decide +kernel
theorem dX6_futureFish_14 : decode cX6_futureFish 14 = .ok (.istore 5, 2) := by decide +kernel
theorem dX6_futureFish_16 : decode cX6_futureFish 16 = .ok (.iload 5, 2) := by decide +kernel
theorem dX6_futureFish_18 : decode cX6_futureFish 18 = .ok (.iload_n 2, 1) := by decide +kernel
theorem dX6_futureFish_19 : decode cX6_futureFish 19 = .ok (.if_icmp .gt 31, 3) := by decide +kernel
theorem dX6_futureFish_22 : decode cX6_futureFish 22 = .ok (.aload_n 0, 1) := by decide +kernel
theorem dX6_futureFish_23 : decode cX6_futureFish 23 = .ok (.iload_n 1, 1) := by decide +kernel
theorem dX6_futureFish_24 : decode cX6_futureFish 24 = .ok (.aload_n 0, 1) := by decide +kernel
theorem dX6_futureFish_25 : decode cX6_futureFish 25 = .ok (.iload_n 1, 1) := by decide +kernel
theorem dX6_futureFish_26 : decode cX6_futureFish 26 = .ok (.iload 4, 2) := by decide +kernel
theorem dX6_futureFish_28 : decode cX6_futureFish 28 = .ok (.invokevirtual 160, 3) := by decide +kernel
theorem dX6_futureFish_31 : decode cX6_futureFish 31 = .ok (.aload_n 0, 1) := by decide +kernel
theorem dX6_futureFish_32 : decode cX6_futureFish 32 = .ok (.getfield 52, 3) := by decide +kernel
theorem dX6_futureFish_35 : decode cX6_futureFish 35 = .ok (.iload 5, 2) := by decide +kernel
theorem dX6_futureFish_37 : decode cX6_futureFish 37 = .ok (.iadd, 1) := by decide +kernel
theorem dX6_futureFish_38 : decode cX6_futureFish 38 = .ok (.iload_n 3, 1) := by decide +kernel
theorem dX6_futureFish_39 : decode cX6_futureFish 39 = .ok (.invokevirtual 167, 3) := by decide +kernel
theorem dX6_futureFish_42 : decode cX6_futureFish 42 = .ok (.istore 4, 2) := by decide +kernel
theorem dX6_futureFish_44 : decode cX6_futureFish 44 = .ok (.iinc 5 1, 3) := by decide +kernel
theorem dX6_futureFish_47 : decode cX6_futureFish 47 = .ok (.goto (-31), 3) := by decide +kernel
theorem dX6_futureFish_50 : decode cX6_futureFish 50 = .ok (.iload 4, 2) := by decide +kernel
theorem dX6_futureFish_52 : decode cX6_futureFish 52 = .ok (.ireturn, 1) := by decide +kernel
theorem dX6_supper_0 : decode cX6_supper 0 = .ok (.aload_n 0, 1) := by decide +kernel
theorem dX6_supper_1 : decode cX6_supper 1 = .ok (.iload_n 1, 1) := by decide +kernel
theorem dX6_supper_2 : decode cX6_supper 2 = .ok (.invokevirtual 91, 3) := by decide +kernel
theorem dX6_supper_5 : decode cX6_supper 5 = .ok (.ifCond .eq 24, 3) := by decide +kernel
theorem dX6_supper_8 : decode cX6_supper 8 = .ok (.bipush 99, 2) := by decide +kernel
theorem dX6_supper_10 : decode cX6_supper 10 = .ok (.iload_n 2, 1) := by decide +kernel
theorem dX6_supper_11 : decode cX6_supper 11 = .ok (.aload_n 0, 1) := by decide +kernel
theorem dX6_supper_12 : decode cX6_supper 12 = .ok (.getfield 15, 3) := by decide +kernel
theorem dX6_supper_15 : decode cX6_supper 15 = .ok (.aload_n 0, 1) := by decide +kernel
theorem dX6_supper_16 : decode cX6_supper 16 = .ok (.getfield 46, 3) := by decide +kernel
theorem dX6_supper_19 : decode cX6_supper 19 = .ok (.iload_n 1, 1) := by decide +kernel
theorem dX6_supper_20 : decode cX6_supper 20 = .ok (.iaload, 1) := by decide +kernel
theorem dX6_supper_21 : decode cX6_supper 21 = .ok (.iaload, 1) := by decide +kernel
theorem dX6_supper_22 : decode cX6_supper 22 = .ok (.iconst 3, 1) := by decide +kernel
theorem dX6_supper_23 : decode cX6_supper 23 = .ok (.idiv, 1) := by decide +kernel
theorem dX6_supper_24 : decode cX6_supper 24 = .ok (.iadd, 1) := by decide +kernel
theorem dX6_supper_25 : decode cX6_supper 25 = .ok (.invokestatic 170, 3) := by decide +kernel
theorem dX6_supper_28 : decode cX6_supper 28 = .ok (.ireturn, 1) := by decide +kernel
theorem dX6_supper_29 : decode cX6_supper 29 = .ok (.iconst 0, 1) := by decide +kernel
theorem dX6_supper_30 : decode cX6_supper 30 = .ok (.iload_n 2, 1) := by decide +kernel
theorem dX6_supper_31 : decode cX6_supper 31 = .ok (.iconst 1, 1) := by decide +kernel
theorem dX6_supper_32 : decode cX6_supper 32 = .ok (.isub, 1) := by decide +kernel
theorem dX6_supper_33 : decode cX6_supper 33 = .ok (.invokestatic 103, 3) := by decide +kernel
theorem dX6_supper_36 : decode cX6_supper 36 = .ok (.ireturn, 1) := by decide +kernel
theorem dX6_feast_0 : decode cX6_feast 0 = .ok (.iload_n 3, 1) := by decide +kernel
theorem dX6_feast_1 : decode cX6_feast 1 = .ok (.bipush 8, 2) := by decide +kernel
theorem dX6_feast_3 : decode cX6_feast 3 = .ok (.irem, 1) := by decide +kernel
theorem dX6_feast_4 : decode cX6_feast 4 = .ok (.iconst 4, 1) := by decide +kernel
theorem dX6_feast_5 : decode cX6_feast 5 = .ok (.if_icmp .ne 12, 3) := by decide +kernel
theorem dX6_feast_8 : decode cX6_feast 8 = .ok (.iload 4, 2) := by decide +kernel
theorem dX6_feast_10 : decode cX6_feast 10 = .ok (.iload_n 1, 1) := by decide +kernel
theorem dX6_feast_11 : decode cX6_feast 11 = .ok (.ishr, 1) := by decide +kernel
theorem dX6_feast_12 : decode cX6_feast 12 = .ok (.iconst 1, 1) := by decide +kernel
theorem dX6_feast_13 : decode cX6_feast 13 = .ok (.iand, 1) := by decide +kernel
theorem dX6_feast_14 : decode cX6_feast 14 = .ok (.ifCond .ne 5, 3) := by decide +kernel
theorem dX6_feast_17 : decode cX6_feast 17 = .ok (.iload_n 2, 1) := by decide +kernel
theorem dX6_feast_18 : decode cX6_feast 18 = .ok (.ireturn, 1) := by decide +kernel
theorem dX6_feast_19 : decode cX6_feast 19 = .ok (.bipush 99, 2) := by decide +kernel
theorem dX6_feast_21 : decode cX6_feast 21 = .ok (.iload_n 2, 1) := by decide +kernel
theorem dX6_feast_22 : decode cX6_feast 22 = .ok (.iload 4, 2) := by decide +kernel
theorem dX6_feast_24 : decode cX6_feast 24 = .ok (.invokestatic 98, 3) := by decide +kernel
theorem dX6_feast_27 : decode cX6_feast 27 = .ok (.iadd, 1) := by decide +kernel
theorem dX6_feast_28 : decode cX6_feast 28 = .ok (.invokestatic 170, 3) := by decide +kernel
theorem dX6_feast_31 : decode cX6_feast 31 = .ok (.ireturn, 1) := by decide +kernel
theorem dX6_choirAround_0 : decode cX6_choirAround 0 = .ok (.iconst 0, 1) := by decide +kernel
theorem dX6_choirAround_1 : decode cX6_choirAround 1 = .ok (.istore_n 2, 1) := by decide +kernel
theorem dX6_choirAround_2 : decode cX6_choirAround 2 = .ok (.iconst 0, 1) := by decide +kernel
theorem dX6_choirAround_3 : decode cX6_choirAround 3 = .ok (.istore_n 3, 1) := by decide +kernel
theorem dX6_choirAround_4 : decode cX6_choirAround 4 = .ok (.iload_n 3, 1) := by decide +kernel
theorem dX6_choirAround_5 : decode cX6_choirAround 5 = .ok (.aload_n 0, 1) := by decide +kernel
theorem dX6_choirAround_6 : decode cX6_choirAround 6 = .ok (.getfield 34, 3) := by decide +kernel
theorem dX6_choirAround_9 : decode cX6_choirAround 9 = .ok (.if_icmp .ge 20, 3) := by decide +kernel
theorem dX6_choirAround_12 : decode cX6_choirAround 12 = .ok (.iload_n 2, 1) := by decide +kernel
theorem dX6_choirAround_13 : decode cX6_choirAround 13 = .ok (.iconst 1, 1) := by decide +kernel
theorem dX6_choirAround_14 : decode cX6_choirAround 14 = .ok (.aload_n 0, 1) := by decide +kernel
theorem dX6_choirAround_15 : decode cX6_choirAround 15 = .ok (.getfield 46, 3) := by decide +kernel
theorem dX6_choirAround_18 : decode cX6_choirAround 18 = .ok (.iload_n 3, 1) := by decide +kernel
theorem dX6_choirAround_19 : decode cX6_choirAround 19 = .ok (.iaload, 1) := by decide +kernel
theorem dX6_choirAround_20 : decode cX6_choirAround 20 = .ok (.ishl, 1) := by decide +kernel
theorem dX6_choirAround_21 : decode cX6_choirAround 21 = .ok (.ior, 1) := by decide +kernel
theorem dX6_choirAround_22 : decode cX6_choirAround 22 = .ok (.istore_n 2, 1) := by decide +kernel
theorem dX6_choirAround_23 : decode cX6_choirAround 23 = .ok (.iinc 3 1, 3) := by decide +kernel
theorem dX6_choirAround_26 : decode cX6_choirAround 26 = .ok (.goto (-22), 3) := by decide +kernel
theorem dX6_choirAround_29 : decode cX6_choirAround 29 = .ok (.aload_n 0, 1) := by decide +kernel
theorem dX6_choirAround_30 : decode cX6_choirAround 30 = .ok (.aload_n 0, 1) := by decide +kernel
theorem dX6_choirAround_31 : decode cX6_choirAround 31 = .ok (.getfield 46, 3) := by decide +kernel
theorem dX6_choirAround_34 : decode cX6_choirAround 34 = .ok (.iload_n 1, 1) := by decide +kernel
theorem dX6_choirAround_35 : decode cX6_choirAround 35 = .ok (.iaload, 1) := by decide +kernel
theorem dX6_choirAround_36 : decode cX6_choirAround 36 = .ok (.iload_n 2, 1) := by decide +kernel
theorem dX6_choirAround_37 : decode cX6_choirAround 37 = .ok (.iconst 0, 1) := by decide +kernel
theorem dX6_choirAround_38 : decode cX6_choirAround 38 = .ok (.bipush 10, 2) := by decide +kernel
theorem dX6_choirAround_40 : decode cX6_choirAround 40 = .ok (.invokevirtual 116, 3) := by decide +kernel
theorem dX6_choirAround_43 : decode cX6_choirAround 43 = .ok (.istore_n 3, 1) := by decide +kernel
theorem dX6_choirAround_44 : decode cX6_choirAround 44 = .ok (.iconst 0, 1) := by decide +kernel
theorem dX6_choirAround_45 : decode cX6_choirAround 45 = .ok (.istore 4, 2) := by decide +kernel
theorem dX6_choirAround_47 : decode cX6_choirAround 47 = .ok (.iconst 0, 1) := by decide +kernel
theorem dX6_choirAround_48 : decode cX6_choirAround 48 = .ok (.istore 5, 2) := by decide +kernel
theorem dX6_choirAround_50 : decode cX6_choirAround 50 = .ok (.iload 5, 2) := by decide +kernel
theorem dX6_choirAround_52 : decode cX6_choirAround 52 = .ok (.aload_n 0, 1) := by decide +kernel
theorem dX6_choirAround_53 : decode cX6_choirAround 53 = .ok (.getfield 34, 3) := by decide +kernel
theorem dX6_choirAround_56 : decode cX6_choirAround 56 = .ok (.if_icmp .ge 32, 3) := by decide +kernel
theorem dX6_choirAround_59 : decode cX6_choirAround 59 = .ok (.iload_n 3, 1) := by decide +kernel
theorem dX6_choirAround_60 : decode cX6_choirAround 60 = .ok (.aload_n 0, 1) := by decide +kernel
theorem dX6_choirAround_61 : decode cX6_choirAround 61 = .ok (.getfield 46, 3) := by decide +kernel
theorem dX6_choirAround_64 : decode cX6_choirAround 64 = .ok (.iload 5, 2) := by decide +kernel
theorem dX6_choirAround_66 : decode cX6_choirAround 66 = .ok (.iaload, 1) := by decide +kernel
theorem dX6_choirAround_67 : decode cX6_choirAround 67 = .ok (.ishr, 1) := by decide +kernel
theorem dX6_choirAround_68 : decode cX6_choirAround 68 = .ok (.iconst 1, 1) := by decide +kernel
theorem dX6_choirAround_69 : decode cX6_choirAround 69 = .ok (.iand, 1) := by decide +kernel
theorem dX6_choirAround_70 : decode cX6_choirAround 70 = .ok (.ifCond .eq 12, 3) := by decide +kernel
theorem dX6_choirAround_73 : decode cX6_choirAround 73 = .ok (.iload 4, 2) := by decide +kernel
theorem dX6_choirAround_75 : decode cX6_choirAround 75 = .ok (.iconst 1, 1) := by decide +kernel
theorem dX6_choirAround_76 : decode cX6_choirAround 76 = .ok (.iload 5, 2) := by decide +kernel
theorem dX6_choirAround_78 : decode cX6_choirAround 78 = .ok (.ishl, 1) := by decide +kernel
theorem dX6_choirAround_79 : decode cX6_choirAround 79 = .ok (.ior, 1) := by decide +kernel
theorem dX6_choirAround_80 : decode cX6_choirAround 80 = .ok (.istore 4, 2) := by decide +kernel
theorem dX6_choirAround_82 : decode cX6_choirAround 82 = .ok (.iinc 5 1, 3) := by decide +kernel
theorem dX6_choirAround_85 : decode cX6_choirAround 85 = .ok (.goto (-35), 3) := by decide +kernel
theorem dX6_choirAround_88 : decode cX6_choirAround 88 = .ok (.iload 4, 2) := by decide +kernel
theorem dX6_choirAround_90 : decode cX6_choirAround 90 = .ok (.ireturn, 1) := by decide +kernel
theorem dX6_mainChoir_0 : decode cX6_mainChoir 0 = .ok (.iconst 0, 1) := by decide +kernel
theorem dX6_mainChoir_1 : decode cX6_mainChoir 1 = .ok (.istore_n 1, 1) := by decide +kernel
theorem dX6_mainChoir_2 : decode cX6_mainChoir 2 = .ok (.iconst 0, 1) := by decide +kernel
theorem dX6_mainChoir_3 : decode cX6_mainChoir 3 = .ok (.istore_n 2, 1) := by decide +kernel
theorem dX6_mainChoir_4 : decode cX6_mainChoir 4 = .ok (.iconst 0, 1) := by decide +kernel
theorem dX6_mainChoir_5 : decode cX6_mainChoir 5 = .ok (.istore_n 3, 1) := by decide +kernel
theorem dX6_mainChoir_6 : decode cX6_mainChoir 6 = .ok (.iload_n 3, 1) := by decide +kernel
theorem dX6_mainChoir_7 : decode cX6_mainChoir 7 = .ok (.aload_n 0, 1) := by decide +kernel
theorem dX6_mainChoir_8 : decode cX6_mainChoir 8 = .ok (.getfield 34, 3) := by decide +kernel
theorem dX6_mainChoir_11 : decode cX6_mainChoir 11 = .ok (.if_icmp .ge 44, 3) := by decide +kernel
theorem dX6_mainChoir_14 : decode cX6_mainChoir 14 = .ok (.iload_n 2, 1) := by decide +kernel
theorem dX6_mainChoir_15 : decode cX6_mainChoir 15 = .ok (.iload_n 3, 1) := by decide +kernel
theorem dX6_mainChoir_16 : decode cX6_mainChoir 16 = .ok (.ishr, 1) := by decide +kernel
theorem dX6_mainChoir_17 : decode cX6_mainChoir 17 = .ok (.iconst 1, 1) := by decide +kernel
theorem dX6_mainChoir_18 : decode cX6_mainChoir 18 = .ok (.iand, 1) := by decide +kernel
theorem dX6_mainChoir_19 : decode cX6_mainChoir 19 = .ok (.ifCond .ne 30, 3) := by decide +kernel
theorem dX6_mainChoir_22 : decode cX6_mainChoir 22 = .ok (.aload_n 0, 1) := by decide +kernel
theorem dX6_mainChoir_23 : decode cX6_mainChoir 23 = .ok (.iload_n 3, 1) := by decide +kernel
theorem dX6_mainChoir_24 : decode cX6_mainChoir 24 = .ok (.invokevirtual 173, 3) := by decide +kernel
theorem dX6_mainChoir_27 : decode cX6_mainChoir 27 = .ok (.istore 4, 2) := by decide +kernel
theorem dX6_mainChoir_29 : decode cX6_mainChoir 29 = .ok (.iload_n 2, 1) := by decide +kernel
theorem dX6_mainChoir_30 : decode cX6_mainChoir 30 = .ok (.iload 4, 2) := by decide +kernel
theorem dX6_mainChoir_32 : decode cX6_mainChoir 32 = .ok (.ior, 1) := by decide +kernel
theorem dX6_mainChoir_33 : decode cX6_mainChoir 33 = .ok (.istore_n 2, 1) := by decide +kernel
theorem dX6_mainChoir_34 : decode cX6_mainChoir 34 = .ok (.iload 4, 2) := by decide +kernel
theorem dX6_mainChoir_36 : decode cX6_mainChoir 36 = .ok (.invokestatic 98, 3) := by decide +kernel
theorem dX6_mainChoir_39 : decode cX6_mainChoir 39 = .ok (.iload_n 1, 1) := by decide +kernel
theorem dX6_mainChoir_40 : decode cX6_mainChoir 40 = .ok (.invokestatic 98, 3) := by decide +kernel
theorem dX6_mainChoir_43 : decode cX6_mainChoir 43 = .ok (.if_icmp .le 6, 3) := by decide +kernel
theorem dX6_mainChoir_46 : decode cX6_mainChoir 46 = .ok (.iload 4, 2) := by decide +kernel
theorem dX6_mainChoir_48 : decode cX6_mainChoir 48 = .ok (.istore_n 1, 1) := by decide +kernel
theorem dX6_mainChoir_49 : decode cX6_mainChoir 49 = .ok (.iinc 3 1, 3) := by decide +kernel
theorem dX6_mainChoir_52 : decode cX6_mainChoir 52 = .ok (.goto (-46), 3) := by decide +kernel
theorem dX6_mainChoir_55 : decode cX6_mainChoir 55 = .ok (.iload_n 1, 1) := by decide +kernel
theorem dX6_mainChoir_56 : decode cX6_mainChoir 56 = .ok (.ireturn, 1) := by decide +kernel
theorem dX6_allFish_0 : decode cX6_allFish 0 = .ok (.iconst 0, 1) := by decide +kernel
theorem dX6_allFish_1 : decode cX6_allFish 1 = .ok (.istore_n 1, 1) := by decide +kernel
theorem dX6_allFish_2 : decode cX6_allFish 2 = .ok (.iconst 0, 1) := by decide +kernel
theorem dX6_allFish_3 : decode cX6_allFish 3 = .ok (.istore_n 2, 1) := by decide +kernel
theorem dX6_allFish_4 : decode cX6_allFish 4 = .ok (.iload_n 2, 1) := by decide +kernel
theorem dX6_allFish_5 : decode cX6_allFish 5 = .ok (.aload_n 0, 1) := by decide +kernel
theorem dX6_allFish_6 : decode cX6_allFish 6 = .ok (.getfield 34, 3) := by decide +kernel
theorem dX6_allFish_9 : decode cX6_allFish 9 = .ok (.if_icmp .ge 18, 3) := by decide +kernel
theorem dX6_allFish_12 : decode cX6_allFish 12 = .ok (.iload_n 1, 1) := by decide +kernel
theorem dX6_allFish_13 : decode cX6_allFish 13 = .ok (.aload_n 0, 1) := by decide +kernel
theorem dX6_allFish_14 : decode cX6_allFish 14 = .ok (.getfield 43, 3) := by decide +kernel
theorem dX6_allFish_17 : decode cX6_allFish 17 = .ok (.iload_n 2, 1) := by decide +kernel
theorem dX6_allFish_18 : decode cX6_allFish 18 = .ok (.iaload, 1) := by decide +kernel
theorem dX6_allFish_19 : decode cX6_allFish 19 = .ok (.iadd, 1) := by decide +kernel
theorem dX6_allFish_20 : decode cX6_allFish 20 = .ok (.istore_n 1, 1) := by decide +kernel
theorem dX6_allFish_21 : decode cX6_allFish 21 = .ok (.iinc 2 1, 3) := by decide +kernel
theorem dX6_allFish_24 : decode cX6_allFish 24 = .ok (.goto (-20), 3) := by decide +kernel
theorem dX6_allFish_27 : decode cX6_allFish 27 = .ok (.iload_n 1, 1) := by decide +kernel
theorem dX6_allFish_28 : decode cX6_allFish 28 = .ok (.ireturn, 1) := by decide +kernel
theorem dX6_fishMismatch_0 : decode cX6_fishMismatch 0 = .ok (.aload_n 0, 1) := by decide +kernel
theorem dX6_fishMismatch_1 : decode cX6_fishMismatch 1 = .ok (.invokevirtual 176, 3) := by decide +kernel
theorem dX6_fishMismatch_4 : decode cX6_fishMismatch 4 = .ok (.iconst 5, 1) := by decide +kernel
theorem dX6_fishMismatch_5 : decode cX6_fishMismatch 5 = .ok (.aload_n 0, 1) := by decide +kernel
theorem dX6_fishMismatch_6 : decode cX6_fishMismatch 6 = .ok (.getfield 34, 3) := by decide +kernel
theorem dX6_fishMismatch_9 : decode cX6_fishMismatch 9 = .ok (.imul, 1) := by decide +kernel
theorem dX6_fishMismatch_10 : decode cX6_fishMismatch 10 = .ok (.aload_n 0, 1) := by decide +kernel
theorem dX6_fishMismatch_11 : decode cX6_fishMismatch 11 = .ok (.getfield 55, 3) := by decide +kernel
theorem dX6_fishMismatch_14 : decode cX6_fishMismatch 14 = .ok (.iadd, 1) := by decide +kernel
theorem dX6_fishMismatch_15 : decode cX6_fishMismatch 15 = .ok (.aload_n 0, 1) := by decide +kernel
theorem dX6_fishMismatch_16 : decode cX6_fishMismatch 16 = .ok (.getfield 58, 3) := by decide +kernel
theorem dX6_fishMismatch_19 : decode cX6_fishMismatch 19 = .ok (.isub, 1) := by decide +kernel
theorem dX6_fishMismatch_20 : decode cX6_fishMismatch 20 = .ok (.isub, 1) := by decide +kernel
theorem dX6_fishMismatch_21 : decode cX6_fishMismatch 21 = .ok (.invokestatic 179, 3) := by decide +kernel
theorem dX6_fishMismatch_24 : decode cX6_fishMismatch 24 = .ok (.ireturn, 1) := by decide +kernel
theorem dX6_sharedChimneys_0 : decode cX6_sharedChimneys 0 = .ok (.iconst 0, 1) := by decide +kernel
theorem dX6_sharedChimneys_1 : decode cX6_sharedChimneys 1 = .ok (.istore_n 1, 1) := by decide +kernel
theorem dX6_sharedChimneys_2 : decode cX6_sharedChimneys 2 = .ok (.iconst 0, 1) := by decide +kernel
theorem dX6_sharedChimneys_3 : decode cX6_sharedChimneys 3 = .ok (.istore_n 2, 1) := by decide +kernel
theorem dX6_sharedChimneys_4 : decode cX6_sharedChimneys 4 = .ok (.iload_n 2, 1) := by decide +kernel
theorem dX6_sharedChimneys_5 : decode cX6_sharedChimneys 5 = .ok (.aload_n 0, 1) := by decide +kernel
theorem dX6_sharedChimneys_6 : decode cX6_sharedChimneys 6 = .ok (.getfield 9, 3) := by decide +kernel
theorem dX6_sharedChimneys_9 : decode cX6_sharedChimneys 9 = .ok (.if_icmp .ge 51, 3) := by decide +kernel
theorem dX6_sharedChimneys_12 : decode cX6_sharedChimneys 12 = .ok (.iconst 0, 1) := by decide +kernel
theorem dX6_sharedChimneys_13 : decode cX6_sharedChimneys 13 = .ok (.istore_n 3, 1) := by decide +kernel
theorem dX6_sharedChimneys_14 : decode cX6_sharedChimneys 14 = .ok (.iconst 0, 1) := by decide +kernel
theorem dX6_sharedChimneys_15 : decode cX6_sharedChimneys 15 = .ok (.istore 4, 2) := by decide +kernel
theorem dX6_sharedChimneys_17 : decode cX6_sharedChimneys 17 = .ok (.iload 4, 2) := by decide +kernel
theorem dX6_sharedChimneys_19 : decode cX6_sharedChimneys 19 = .ok (.aload_n 0, 1) := by decide +kernel
theorem dX6_sharedChimneys_20 : decode cX6_sharedChimneys 20 = .ok (.getfield 34, 3) := by decide +kernel
theorem dX6_sharedChimneys_23 : decode cX6_sharedChimneys 23 = .ok (.if_icmp .ge 23, 3) := by decide +kernel
theorem dX6_sharedChimneys_26 : decode cX6_sharedChimneys 26 = .ok (.aload_n 0, 1) := by decide +kernel
theorem dX6_sharedChimneys_27 : decode cX6_sharedChimneys 27 = .ok (.getfield 46, 3) := by decide +kernel
theorem dX6_sharedChimneys_30 : decode cX6_sharedChimneys 30 = .ok (.iload 4, 2) := by decide +kernel
theorem dX6_sharedChimneys_32 : decode cX6_sharedChimneys 32 = .ok (.iaload, 1) := by decide +kernel
theorem dX6_sharedChimneys_33 : decode cX6_sharedChimneys 33 = .ok (.iload_n 2, 1) := by decide +kernel
theorem dX6_sharedChimneys_34 : decode cX6_sharedChimneys 34 = .ok (.if_icmp .ne 6, 3) := by decide +kernel
theorem dX6_sharedChimneys_37 : decode cX6_sharedChimneys 37 = .ok (.iinc 3 1, 3) := by decide +kernel
theorem dX6_sharedChimneys_40 : decode cX6_sharedChimneys 40 = .ok (.iinc 4 1, 3) := by decide +kernel
theorem dX6_sharedChimneys_43 : decode cX6_sharedChimneys 43 = .ok (.goto (-26), 3) := by decide +kernel
theorem dX6_sharedChimneys_46 : decode cX6_sharedChimneys 46 = .ok (.iload_n 3, 1) := by decide +kernel
theorem dX6_sharedChimneys_47 : decode cX6_sharedChimneys 47 = .ok (.iconst 1, 1) := by decide +kernel
theorem dX6_sharedChimneys_48 : decode cX6_sharedChimneys 48 = .ok (.if_icmp .le 6, 3) := by decide +kernel
theorem dX6_sharedChimneys_51 : decode cX6_sharedChimneys 51 = .ok (.iinc 1 1, 3) := by decide +kernel
theorem dX6_sharedChimneys_54 : decode cX6_sharedChimneys 54 = .ok (.iinc 2 1, 3) := by decide +kernel
theorem dX6_sharedChimneys_57 : decode cX6_sharedChimneys 57 = .ok (.goto (-53), 3) := by decide +kernel
theorem dX6_sharedChimneys_60 : decode cX6_sharedChimneys 60 = .ok (.iload_n 1, 1) := by decide +kernel
theorem dX6_sharedChimneys_61 : decode cX6_sharedChimneys 61 = .ok (.ireturn, 1) := by decide +kernel
theorem dX6_brokenCats_0 : decode cX6_brokenCats 0 = .ok (.iconst 0, 1) := by decide +kernel
theorem dX6_brokenCats_1 : decode cX6_brokenCats 1 = .ok (.istore_n 1, 1) := by decide +kernel
theorem dX6_brokenCats_2 : decode cX6_brokenCats 2 = .ok (.iconst 0, 1) := by decide +kernel
theorem dX6_brokenCats_3 : decode cX6_brokenCats 3 = .ok (.istore_n 2, 1) := by decide +kernel
theorem dX6_brokenCats_4 : decode cX6_brokenCats 4 = .ok (.iload_n 2, 1) := by decide +kernel
theorem dX6_brokenCats_5 : decode cX6_brokenCats 5 = .ok (.aload_n 0, 1) := by decide +kernel
theorem dX6_brokenCats_6 : decode cX6_brokenCats 6 = .ok (.getfield 34, 3) := by decide +kernel
theorem dX6_brokenCats_9 : decode cX6_brokenCats 9 = .ok (.if_icmp .ge 47, 3) := by decide +kernel
theorem dX6_brokenCats_12 : decode cX6_brokenCats 12 = .ok (.aload_n 0, 1) := by decide +kernel
theorem dX6_brokenCats_13 : decode cX6_brokenCats 13 = .ok (.iload_n 2, 1) := by decide +kernel
theorem dX6_brokenCats_14 : decode cX6_brokenCats 14 = .ok (.invokevirtual 95, 3) := by decide +kernel
theorem dX6_brokenCats_17 : decode cX6_brokenCats 17 = .ok (.invokestatic 98, 3) := by decide +kernel
theorem dX6_brokenCats_20 : decode cX6_brokenCats 20 = .ok (.iconst 4, 1) := by decide +kernel
theorem dX6_brokenCats_21 : decode cX6_brokenCats 21 = .ok (.if_icmp .le 6, 3) := by decide +kernel
theorem dX6_brokenCats_24 : decode cX6_brokenCats 24 = .ok (.iinc 1 1, 3) := by decide +kernel
theorem dX6_brokenCats_27 : decode cX6_brokenCats 27 = .ok (.aload_n 0, 1) := by decide +kernel
theorem dX6_brokenCats_28 : decode cX6_brokenCats 28 = .ok (.getfield 43, 3) := by decide +kernel
theorem dX6_brokenCats_31 : decode cX6_brokenCats 31 = .ok (.iload_n 2, 1) := by decide +kernel
theorem dX6_brokenCats_32 : decode cX6_brokenCats 32 = .ok (.iaload, 1) := by decide +kernel
theorem dX6_brokenCats_33 : decode cX6_brokenCats 33 = .ok (.ifCond .lt 14, 3) := by decide +kernel
theorem dX6_brokenCats_36 : decode cX6_brokenCats 36 = .ok (.aload_n 0, 1) := by decide +kernel
theorem dX6_brokenCats_37 : decode cX6_brokenCats 37 = .ok (.getfield 43, 3) := by decide +kernel
theorem dX6_brokenCats_40 : decode cX6_brokenCats 40 = .ok (.iload_n 2, 1) := by decide +kernel
theorem dX6_brokenCats_41 : decode cX6_brokenCats 41 = .ok (.iaload, 1) := by decide +kernel
theorem dX6_brokenCats_42 : decode cX6_brokenCats 42 = .ok (.bipush 99, 2) := by decide +kernel
theorem dX6_brokenCats_44 : decode cX6_brokenCats 44 = .ok (.if_icmp .le 6, 3) := by decide +kernel
theorem dX6_brokenCats_47 : decode cX6_brokenCats 47 = .ok (.iinc 1 1, 3) := by decide +kernel
theorem dX6_brokenCats_50 : decode cX6_brokenCats 50 = .ok (.iinc 2 1, 3) := by decide +kernel
theorem dX6_brokenCats_53 : decode cX6_brokenCats 53 = .ok (.goto (-49), 3) := by decide +kernel
theorem dX6_brokenCats_56 : decode cX6_brokenCats 56 = .ok (.iload_n 1, 1) := by decide +kernel
theorem dX6_brokenCats_57 : decode cX6_brokenCats 57 = .ok (.ireturn, 1) := by decide +kernel
theorem dX7_init_0 : decode cX7_init 0 = .ok (.aload_n 0, 1) := by decide +kernel
theorem dX7_init_1 : decode cX7_init 1 = .ok (.invokespecial 3, 3) := by decide +kernel
theorem dX7_init_4 : decode cX7_init 4 = .ok (.aload_n 0, 1) := by decide +kernel
theorem dX7_init_5 : decode cX7_init 5 = .ok (.new 9, 3) := by decide +kernel
theorem dX7_init_8 : decode cX7_init 8 = .ok (.dup, 1) := by decide +kernel
theorem dX7_init_9 : decode cX7_init 9 = .ok (.invokespecial 11, 3) := by decide +kernel
theorem dX7_init_12 : decode cX7_init 12 = .ok (.putfield 12, 3) := by decide +kernel
theorem dX7_init_15 : decode cX7_init 15 = .ok (.aload_n 0, 1) := by decide +kernel
theorem dX7_init_16 : decode cX7_init 16 = .ok (.new 18, 3) := by decide +kernel
theorem dX7_init_19 : decode cX7_init 19 = .ok (.dup, 1) := by decide +kernel
theorem dX7_init_20 : decode cX7_init 20 = .ok (.invokespecial 20, 3) := by decide +kernel
theorem dX7_init_23 : decode cX7_init 23 = .ok (.putfield 21, 3) := by decide +kernel
theorem dX7_init_26 : decode cX7_init 26 = .ok (.aload_n 0, 1) := by decide +kernel
theorem dX7_init_27 : decode cX7_init 27 = .ok (.iconst 0, 1) := by decide +kernel
theorem dX7_init_28 : decode cX7_init 28 = .ok (.putfield 25, 3) := by decide +kernel
theorem dX7_init_31 : decode cX7_init 31 = .ok (.aload_n 0, 1) := by decide +kernel
theorem dX7_init_32 : decode cX7_init 32 = .ok (.iconst (-1), 1) := by decide +kernel
theorem dX7_init_33 : decode cX7_init 33 = .ok (.putfield 29, 3) := by decide +kernel
theorem dX7_init_36 : decode cX7_init 36 = .ok (.aload_n 0, 1) := by decide +kernel
theorem dX7_init_37 : decode cX7_init 37 = .ok (.iconst 4, 1) := by decide +kernel
theorem dX7_init_38 : decode cX7_init 38 = .ok (.newarray .int, 2) := by decide +kernel
theorem dX7_init_40 : decode cX7_init 40 = .ok (.putfield 32, 3) := by decide +kernel
theorem dX7_init_43 : decode cX7_init 43 = .ok (.aload_n 0, 1) := by decide +kernel
theorem dX7_init_44 : decode cX7_init 44 = .ok (.iconst 0, 1) := by decide +kernel
theorem dX7_init_45 : decode cX7_init 45 = .ok (.putfield 36, 3) := by decide +kernel
theorem dX7_init_48 : decode cX7_init 48 = .ok (.aload_n 0, 1) := by decide +kernel
theorem dX7_init_49 : decode cX7_init 49 = .ok (.iconst 0, 1) := by decide +kernel
theorem dX7_init_50 : decode cX7_init 50 = .ok (.putfield 40, 3) := by decide +kernel
theorem dX7_init_53 : decode cX7_init 53 = .ok (.aload_n 0, 1) := by decide +kernel
theorem dX7_init_54 : decode cX7_init 54 = .ok (.iconst 0, 1) := by decide +kernel
theorem dX7_init_55 : decode cX7_init 55 = .ok (.putfield 43, 3) := by decide +kernel
theorem dX7_init_58 : decode cX7_init 58 = .ok (.aload_n 0, 1) := by decide +kernel
theorem dX7_init_59 : decode cX7_init 59 = .ok (.iconst 2, 1) := by decide +kernel
theorem dX7_init_60 : decode cX7_init 60 = .ok (.newarray .int, 2) := by decide +kernel
theorem dX7_init_62 : decode cX7_init 62 = .ok (.putfield 46, 3) := by decide +kernel
theorem dX7_init_65 : decode cX7_init 65 = .ok (.aload_n 0, 1) := by decide +kernel
theorem dX7_init_66 : decode cX7_init 66 = .ok (.iconst 2, 1) := by decide +kernel
theorem dX7_init_67 : decode cX7_init 67 = .ok (.newarray .int, 2) := by decide +kernel
theorem dX7_init_69 : decode cX7_init 69 = .ok (.putfield 49, 3) := by decide +kernel
theorem dX7_init_72 : decode cX7_init 72 = .ok (.return_, 1) := by decide +kernel
theorem dX7_execute_0 : decode cX7_execute 0 = .ok (.aload_n 0, 1) := by decide +kernel
theorem dX7_execute_1 : decode cX7_execute 1 = .ok (.invokevirtual 52, 3) := by decide +kernel
theorem dX7_execute_4 : decode cX7_execute 4 = .ok (.aload_n 0, 1) := by decide +kernel
theorem dX7_execute_5 : decode cX7_execute 5 = .ok (.invokevirtual 55, 3) := by decide +kernel
theorem dX7_execute_8 : decode cX7_execute 8 = .ok (.iconst 0, 1) := by decide +kernel
theorem dX7_execute_9 : decode cX7_execute 9 = .ok (.istore_n 1, 1) := by decide +kernel
theorem dX7_execute_10 : decode cX7_execute 10 = .ok (.iload_n 1, 1) := by decide +kernel
theorem dX7_execute_11 : decode cX7_execute 11 = .ok (.ldc 58, 2) := by decide +kernel
theorem dX7_execute_13 : decode cX7_execute 13 = .ok (.if_icmp .ge 60, 3) := by decide +kernel
theorem dX7_execute_16 : decode cX7_execute 16 = .ok (.aload_n 0, 1) := by decide +kernel
theorem dX7_execute_17 : decode cX7_execute 17 = .ok (.getfield 36, 3) := by decide +kernel
theorem dX7_execute_20 : decode cX7_execute 20 = .ok (.ifCond .eq 53, 3) := by decide +kernel
theorem dX7_execute_23 : decode cX7_execute 23 = .ok (.aload_n 0, 1) := by decide +kernel
theorem dX7_execute_24 : decode cX7_execute 24 = .ok (.invokevirtual 59, 3) := by decide +kernel
theorem dX7_execute_27 : decode cX7_execute 27 = .ok (.astore_n 2, 1) := by decide +kernel
theorem dX7_execute_28 : decode cX7_execute 28 = .ok (.aload_n 2, 1) := by decide +kernel
theorem dX7_execute_29 : decode cX7_execute 29 = .ok (.ifnull 19, 3) := by decide +kernel
theorem dX7_execute_32 : decode cX7_execute 32 = .ok (.aload_n 0, 1) := by decide +kernel
theorem dX7_execute_33 : decode cX7_execute 33 = .ok (.aload_n 2, 1) := by decide +kernel
theorem dX7_execute_34 : decode cX7_execute 34 = .ok (.invokevirtual 63, 3) := by decide +kernel
theorem dX7_execute_37 : decode cX7_execute 37 = .ok (.ifCond .eq 11, 3) := by decide +kernel
theorem dX7_execute_40 : decode cX7_execute 40 = .ok (.aload_n 0, 1) := by decide +kernel
theorem dX7_execute_41 : decode cX7_execute 41 = .ok (.iconst 3, 1) := by decide +kernel
theorem dX7_execute_42 : decode cX7_execute 42 = .ok (.invokevirtual 67, 3) := by decide +kernel
theorem dX7_execute_45 : decode cX7_execute 45 = .ok (.goto 22, 3) := by decide +kernel
theorem dX7_execute_48 : decode cX7_execute 48 = .ok (.aload_n 2, 1) := by decide +kernel
theorem dX7_execute_49 : decode cX7_execute 49 = .ok (.ifnull 18, 3) := by decide +kernel
theorem dX7_execute_52 : decode cX7_execute 52 = .ok (.aload_n 0, 1) := by decide +kernel
theorem dX7_execute_53 : decode cX7_execute 53 = .ok (.dup, 1) := by decide +kernel
theorem dX7_execute_54 : decode cX7_execute 54 = .ok (.getfield 40, 3) := by decide +kernel
theorem dX7_execute_57 : decode cX7_execute 57 = .ok (.iconst 1, 1) := by decide +kernel
theorem dX7_execute_58 : decode cX7_execute 58 = .ok (.iadd, 1) := by decide +kernel
theorem dX7_execute_59 : decode cX7_execute 59 = .ok (.putfield 40, 3) := by decide +kernel
theorem dX7_execute_62 : decode cX7_execute 62 = .ok (.aload_n 0, 1) := by decide +kernel
theorem dX7_execute_63 : decode cX7_execute 63 = .ok (.aload_n 2, 1) := by decide +kernel
theorem dX7_execute_64 : decode cX7_execute 64 = .ok (.invokevirtual 71, 3) := by decide +kernel
theorem dX7_execute_67 : decode cX7_execute 67 = .ok (.iinc 1 1, 3) := by decide +kernel
theorem dX7_execute_70 : decode cX7_execute 70 = .ok (.goto (-60), 3) := by decide +kernel
theorem dX7_execute_73 : decode cX7_execute 73 = .ok (.return_, 1) := by decide +kernel
theorem dX7_begin_0 : decode cX7_begin 0 = .ok (.aload_n 0, 1) := by decide +kernel
theorem dX7_begin_1 : decode cX7_begin 1 = .ok (.getfield 21, 3) := by decide +kernel
theorem dX7_begin_4 : decode cX7_begin 4 = .ok (.invokevirtual 75, 3) := by decide +kernel
theorem dX7_begin_7 : decode cX7_begin 7 = .ok (.aload_n 0, 1) := by decide +kernel
theorem dX7_begin_8 : decode cX7_begin 8 = .ok (.getfield 12, 3) := by decide +kernel
theorem dX7_begin_11 : decode cX7_begin 11 = .ok (.iconst 0, 1) := by decide +kernel
theorem dX7_begin_12 : decode cX7_begin 12 = .ok (.putfield 78, 3) := by decide +kernel
theorem dX7_begin_15 : decode cX7_begin 15 = .ok (.aload_n 0, 1) := by decide +kernel
theorem dX7_begin_16 : decode cX7_begin 16 = .ok (.iconst 0, 1) := by decide +kernel
theorem dX7_begin_17 : decode cX7_begin 17 = .ok (.putfield 25, 3) := by decide +kernel
theorem dX7_begin_20 : decode cX7_begin 20 = .ok (.aload_n 0, 1) := by decide +kernel
theorem dX7_begin_21 : decode cX7_begin 21 = .ok (.iconst (-1), 1) := by decide +kernel
theorem dX7_begin_22 : decode cX7_begin 22 = .ok (.putfield 29, 3) := by decide +kernel
theorem dX7_begin_25 : decode cX7_begin 25 = .ok (.aload_n 0, 1) := by decide +kernel
theorem dX7_begin_26 : decode cX7_begin 26 = .ok (.iconst 1, 1) := by decide +kernel
theorem dX7_begin_27 : decode cX7_begin 27 = .ok (.putfield 36, 3) := by decide +kernel
theorem dX7_begin_30 : decode cX7_begin 30 = .ok (.aload_n 0, 1) := by decide +kernel
theorem dX7_begin_31 : decode cX7_begin 31 = .ok (.iconst 0, 1) := by decide +kernel
theorem dX7_begin_32 : decode cX7_begin 32 = .ok (.putfield 40, 3) := by decide +kernel
theorem dX7_begin_35 : decode cX7_begin 35 = .ok (.aload_n 0, 1) := by decide +kernel
theorem dX7_begin_36 : decode cX7_begin 36 = .ok (.iconst 0, 1) := by decide +kernel
theorem dX7_begin_37 : decode cX7_begin 37 = .ok (.putfield 43, 3) := by decide +kernel
theorem dX7_begin_40 : decode cX7_begin 40 = .ok (.return_, 1) := by decide +kernel
theorem dX7_fail_0 : decode cX7_fail 0 = .ok (.aload_n 0, 1) := by decide +kernel
theorem dX7_fail_1 : decode cX7_fail 1 = .ok (.iload_n 1, 1) := by decide +kernel
theorem dX7_fail_2 : decode cX7_fail 2 = .ok (.putfield 25, 3) := by decide +kernel
theorem dX7_fail_5 : decode cX7_fail 5 = .ok (.aload_n 0, 1) := by decide +kernel
theorem dX7_fail_6 : decode cX7_fail 6 = .ok (.aload_n 0, 1) := by decide +kernel
theorem dX7_fail_7 : decode cX7_fail 7 = .ok (.getfield 12, 3) := by decide +kernel
theorem dX7_fail_10 : decode cX7_fail 10 = .ok (.getfield 81, 3) := by decide +kernel
theorem dX7_fail_13 : decode cX7_fail 13 = .ok (.putfield 29, 3) := by decide +kernel
theorem dX7_fail_16 : decode cX7_fail 16 = .ok (.aload_n 0, 1) := by decide +kernel
theorem dX7_fail_17 : decode cX7_fail 17 = .ok (.iconst 0, 1) := by decide +kernel
theorem dX7_fail_18 : decode cX7_fail 18 = .ok (.putfield 36, 3) := by decide +kernel
theorem dX7_fail_21 : decode cX7_fail 21 = .ok (.return_, 1) := by decide +kernel
theorem dX7_expect_0 : decode cX7_expect 0 = .ok (.aload_n 0, 1) := by decide +kernel
theorem dX7_expect_1 : decode cX7_expect 1 = .ok (.getfield 12, 3) := by decide +kernel
theorem dX7_expect_4 : decode cX7_expect 4 = .ok (.invokevirtual 84, 3) := by decide +kernel
theorem dX7_expect_7 : decode cX7_expect 7 = .ok (.aload_n 0, 1) := by decide +kernel
theorem dX7_expect_8 : decode cX7_expect 8 = .ok (.getfield 12, 3) := by decide +kernel
theorem dX7_expect_11 : decode cX7_expect 11 = .ok (.getfield 87, 3) := by decide +kernel
theorem dX7_expect_14 : decode cX7_expect 14 = .ok (.iload_n 1, 1) := by decide +kernel
theorem dX7_expect_15 : decode cX7_expect 15 = .ok (.if_icmp .eq 10, 3) := by decide +kernel
theorem dX7_expect_18 : decode cX7_expect 18 = .ok (.aload_n 0, 1) := by decide +kernel
theorem dX7_expect_19 : decode cX7_expect 19 = .ok (.iconst 1, 1) := by decide +kernel
theorem dX7_expect_20 : decode cX7_expect 20 = .ok (.invokevirtual 67, 3) := by decide +kernel
theorem dX7_expect_23 : decode cX7_expect 23 = .ok (.iconst 0, 1) := by decide +kernel
theorem dX7_expect_24 : decode cX7_expect 24 = .ok (.ireturn, 1) := by decide +kernel
theorem dX7_expect_25 : decode cX7_expect 25 = .ok (.iconst 1, 1) := by decide +kernel
theorem dX7_expect_26 : decode cX7_expect 26 = .ok (.ireturn, 1) := by decide +kernel
theorem dX7_readHead_0 : decode cX7_readHead 0 = .ok (.aload_n 0, 1) := by decide +kernel
theorem dX7_readHead_1 : decode cX7_readHead 1 = .ok (.getfield 12, 3) := by decide +kernel
theorem dX7_readHead_4 : decode cX7_readHead 4 = .ok (.invokevirtual 84, 3) := by decide +kernel
theorem dX7_readHead_7 : decode cX7_readHead 7 = .ok (.aload_n 0, 1) := by decide +kernel
theorem dX7_readHead_8 : decode cX7_readHead 8 = .ok (.getfield 12, 3) := by decide +kernel
theorem dX7_readHead_11 : decode cX7_readHead 11 = .ok (.ldc 90, 2) := by decide +kernel
theorem dX7_readHead_13 : decode cX7_readHead 13 = .ok (.invokevirtual 91, 3) := by decide +kernel
theorem dX7_readHead_16 : decode cX7_readHead 16 = .ok (.ifCond .eq 12, 3) := by decide +kernel
theorem dX7_readHead_19 : decode cX7_readHead 19 = .ok (.aload_n 0, 1) := by decide +kernel
theorem dX7_readHead_20 : decode cX7_readHead 20 = .ok (.iconst 5, 1) := by decide +kernel
theorem dX7_readHead_21 : decode cX7_readHead 21 = .ok (.invokevirtual 95, 3) := by decide +kernel
theorem dX7_readHead_24 : decode cX7_readHead 24 = .ok (.pop, 1) := by decide +kernel
theorem dX7_readHead_25 : decode cX7_readHead 25 = .ok (.goto 8, 3) := by decide +kernel
theorem dX7_readHead_28 : decode cX7_readHead 28 = .ok (.aload_n 0, 1) := by decide +kernel
theorem dX7_readHead_29 : decode cX7_readHead 29 = .ok (.iconst 1, 1) := by decide +kernel
theorem dX7_readHead_30 : decode cX7_readHead 30 = .ok (.invokevirtual 67, 3) := by decide +kernel
theorem dX7_readHead_33 : decode cX7_readHead 33 = .ok (.return_, 1) := by decide +kernel
theorem dX7_readStatement_0 : decode cX7_readStatement 0 = .ok (.aload_n 0, 1) := by decide +kernel
theorem dX7_readStatement_1 : decode cX7_readStatement 1 = .ok (.getfield 12, 3) := by decide +kernel
theorem dX7_readStatement_4 : decode cX7_readStatement 4 = .ok (.invokevirtual 84, 3) := by decide +kernel
theorem dX7_readStatement_7 : decode cX7_readStatement 7 = .ok (.aload_n 0, 1) := by decide +kernel
theorem dX7_readStatement_8 : decode cX7_readStatement 8 = .ok (.getfield 12, 3) := by decide +kernel
theorem dX7_readStatement_11 : decode cX7_readStatement 11 = .ok (.getfield 87, 3) := by decide +kernel
theorem dX7_readStatement_14 : decode cX7_readStatement 14 = .ok (.ifCond .ne 17, 3) := by decide +kernel
theorem dX7_readStatement_17 : decode cX7_readStatement 17 = .ok (.aload_n 0, 1) := by decide +kernel
theorem dX7_readStatement_18 : decode cX7_readStatement 18 = .ok (.getfield 43, 3) := by decide +kernel
theorem dX7_readStatement_21 : decode cX7_readStatement 21 = .ok (.ifCond .ne 10, 3) := by decide +kernel
theorem dX7_readStatement_24 : decode cX7_readStatement 24 = .ok (.aload_n 0, 1) := by decide +kernel
theorem dX7_readStatement_25 : decode cX7_readStatement 25 = .ok (.iconst 0, 1) := by decide +kernel
theorem dX7_readStatement_26 : decode cX7_readStatement 26 = .ok (.putfield 36, 3) := by decide +kernel
theorem dX7_readStatement_29 : decode cX7_readStatement 29 = .ok (.aconst_null, 1) := by decide +kernel
theorem dX7_readStatement_30 : decode cX7_readStatement 30 = .ok (.areturn, 1) := by decide +kernel
theorem dX7_readStatement_31 : decode cX7_readStatement 31 = .ok (.aload_n 0, 1) := by decide +kernel
theorem dX7_readStatement_32 : decode cX7_readStatement 32 = .ok (.getfield 12, 3) := by decide +kernel
theorem dX7_readStatement_35 : decode cX7_readStatement 35 = .ok (.getfield 87, 3) := by decide +kernel
theorem dX7_readStatement_38 : decode cX7_readStatement 38 = .ok (.iconst 4, 1) := by decide +kernel
theorem dX7_readStatement_39 : decode cX7_readStatement 39 = .ok (.if_icmp .ne 16, 3) := by decide +kernel
theorem dX7_readStatement_42 : decode cX7_readStatement 42 = .ok (.aload_n 0, 1) := by decide +kernel
theorem dX7_readStatement_43 : decode cX7_readStatement 43 = .ok (.getfield 43, 3) := by decide +kernel
theorem dX7_readStatement_46 : decode cX7_readStatement 46 = .ok (.ifCond .le 9, 3) := by decide +kernel
theorem dX7_readStatement_49 : decode cX7_readStatement 49 = .ok (.aload_n 0, 1) := by decide +kernel
theorem dX7_readStatement_50 : decode cX7_readStatement 50 = .ok (.invokevirtual 99, 3) := by decide +kernel
theorem dX7_readStatement_53 : decode cX7_readStatement 53 = .ok (.aconst_null, 1) := by decide +kernel
theorem dX7_readStatement_54 : decode cX7_readStatement 54 = .ok (.areturn, 1) := by decide +kernel
theorem dX7_readStatement_55 : decode cX7_readStatement 55 = .ok (.aload_n 0, 1) := by decide +kernel
theorem dX7_readStatement_56 : decode cX7_readStatement 56 = .ok (.invokevirtual 102, 3) := by decide +kernel
theorem dX7_readStatement_59 : decode cX7_readStatement 59 = .ok (.astore_n 1, 1) := by decide +kernel
theorem dX7_readStatement_60 : decode cX7_readStatement 60 = .ok (.aload_n 1, 1) := by decide +kernel
theorem dX7_readStatement_61 : decode cX7_readStatement 61 = .ok (.ifnonnull 10, 3) := by decide +kernel
theorem dX7_readStatement_64 : decode cX7_readStatement 64 = .ok (.aload_n 0, 1) := by decide +kernel
theorem dX7_readStatement_65 : decode cX7_readStatement 65 = .ok (.iconst 1, 1) := by decide +kernel
theorem dX7_readStatement_66 : decode cX7_readStatement 66 = .ok (.invokevirtual 67, 3) := by decide +kernel
theorem dX7_readStatement_69 : decode cX7_readStatement 69 = .ok (.aconst_null, 1) := by decide +kernel
theorem dX7_readStatement_70 : decode cX7_readStatement 70 = .ok (.areturn, 1) := by decide +kernel
theorem dX7_readStatement_71 : decode cX7_readStatement 71 = .ok (.aload_n 1, 1) := by decide +kernel
theorem dX7_readStatement_72 : decode cX7_readStatement 72 = .ok (.getstatic 105, 3) := by decide +kernel
theorem dX7_readStatement_75 : decode cX7_readStatement 75 = .ok (.if_acmp .ne 9, 3) := by decide +kernel
theorem dX7_readStatement_78 : decode cX7_readStatement 78 = .ok (.aload_n 0, 1) := by decide +kernel
theorem dX7_readStatement_79 : decode cX7_readStatement 79 = .ok (.invokevirtual 111, 3) := by decide +kernel
theorem dX7_readStatement_82 : decode cX7_readStatement 82 = .ok (.aconst_null, 1) := by decide +kernel
theorem dX7_readStatement_83 : decode cX7_readStatement 83 = .ok (.areturn, 1) := by decide +kernel
theorem dX7_readStatement_84 : decode cX7_readStatement 84 = .ok (.aload_n 0, 1) := by decide +kernel
theorem dX7_readStatement_85 : decode cX7_readStatement 85 = .ok (.getfield 40, 3) := by decide +kernel
theorem dX7_readStatement_88 : decode cX7_readStatement 88 = .ok (.sipush 200, 3) := by decide +kernel
theorem dX7_readStatement_91 : decode cX7_readStatement 91 = .ok (.if_icmp .lt 10, 3) := by decide +kernel
theorem dX7_readStatement_94 : decode cX7_readStatement 94 = .ok (.aload_n 0, 1) := by decide +kernel
theorem dX7_readStatement_95 : decode cX7_readStatement 95 = .ok (.iconst 5, 1) := by decide +kernel
theorem dX7_readStatement_96 : decode cX7_readStatement 96 = .ok (.invokevirtual 67, 3) := by decide +kernel
theorem dX7_readStatement_99 : decode cX7_readStatement 99 = .ok (.aconst_null, 1) := by decide +kernel
theorem dX7_readStatement_100 : decode cX7_readStatement 100 = .ok (.areturn, 1) := by decide +kernel
theorem dX7_readStatement_101 : decode cX7_readStatement 101 = .ok (.aload_n 0, 1) := by decide +kernel
theorem dX7_readStatement_102 : decode cX7_readStatement 102 = .ok (.aload_n 1, 1) := by decide +kernel
theorem dX7_readStatement_103 : decode cX7_readStatement 103 = .ok (.invokevirtual 114, 3) := by decide +kernel
theorem dX7_readStatement_106 : decode cX7_readStatement 106 = .ok (.ifCond .eq 15, 3) := by decide +kernel
theorem dX7_readStatement_109 : decode cX7_readStatement 109 = .ok (.aload_n 0, 1) := by decide +kernel
theorem dX7_readStatement_110 : decode cX7_readStatement 110 = .ok (.iconst 5, 1) := by decide +kernel
theorem dX7_readStatement_111 : decode cX7_readStatement 111 = .ok (.invokevirtual 95, 3) := by decide +kernel
theorem dX7_readStatement_114 : decode cX7_readStatement 114 = .ok (.ifCond .eq 7, 3) := by decide +kernel
theorem dX7_readStatement_117 : decode cX7_readStatement 117 = .ok (.aload_n 1, 1) := by decide +kernel
theorem dX7_readStatement_118 : decode cX7_readStatement 118 = .ok (.goto 4, 3) := by decide +kernel
theorem dX7_readStatement_121 : decode cX7_readStatement 121 = .ok (.aconst_null, 1) := by decide +kernel
theorem dX7_readStatement_122 : decode cX7_readStatement 122 = .ok (.areturn, 1) := by decide +kernel
theorem dX7_commandHere_0 : decode cX7_commandHere 0 = .ok (.iconst 0, 1) := by decide +kernel
theorem dX7_commandHere_1 : decode cX7_commandHere 1 = .ok (.istore_n 1, 1) := by decide +kernel
theorem dX7_commandHere_2 : decode cX7_commandHere 2 = .ok (.iload_n 1, 1) := by decide +kernel
theorem dX7_commandHere_3 : decode cX7_commandHere 3 = .ok (.getstatic 117, 3) := by decide +kernel
theorem dX7_commandHere_6 : decode cX7_commandHere 6 = .ok (.arraylength, 1) := by decide +kernel
theorem dX7_commandHere_7 : decode cX7_commandHere 7 = .ok (.if_icmp .ge 33, 3) := by decide +kernel
theorem dX7_commandHere_10 : decode cX7_commandHere 10 = .ok (.aload_n 0, 1) := by decide +kernel
theorem dX7_commandHere_11 : decode cX7_commandHere 11 = .ok (.getfield 12, 3) := by decide +kernel
theorem dX7_commandHere_14 : decode cX7_commandHere 14 = .ok (.getstatic 117, 3) := by decide +kernel
theorem dX7_commandHere_17 : decode cX7_commandHere 17 = .ok (.iload_n 1, 1) := by decide +kernel
theorem dX7_commandHere_18 : decode cX7_commandHere 18 = .ok (.aaload, 1) := by decide +kernel
theorem dX7_commandHere_19 : decode cX7_commandHere 19 = .ok (.getfield 121, 3) := by decide +kernel
theorem dX7_commandHere_22 : decode cX7_commandHere 22 = .ok (.invokevirtual 91, 3) := by decide +kernel
theorem dX7_commandHere_25 : decode cX7_commandHere 25 = .ok (.ifCond .eq 9, 3) := by decide +kernel
theorem dX7_commandHere_28 : decode cX7_commandHere 28 = .ok (.getstatic 117, 3) := by decide +kernel
theorem dX7_commandHere_31 : decode cX7_commandHere 31 = .ok (.iload_n 1, 1) := by decide +kernel
theorem dX7_commandHere_32 : decode cX7_commandHere 32 = .ok (.aaload, 1) := by decide +kernel
theorem dX7_commandHere_33 : decode cX7_commandHere 33 = .ok (.areturn, 1) := by decide +kernel
theorem dX7_commandHere_34 : decode cX7_commandHere 34 = .ok (.iinc 1 1, 3) := by decide +kernel
theorem dX7_commandHere_37 : decode cX7_commandHere 37 = .ok (.goto (-35), 3) := by decide +kernel
theorem dX7_commandHere_40 : decode cX7_commandHere 40 = .ok (.aconst_null, 1) := by decide +kernel
theorem dX7_commandHere_41 : decode cX7_commandHere 41 = .ok (.areturn, 1) := by decide +kernel
theorem dX7_openRepeat_0 : decode cX7_openRepeat 0 = .ok (.aload_n 0, 1) := by decide +kernel
theorem dX7_openRepeat_1 : decode cX7_openRepeat 1 = .ok (.getfield 43, 3) := by decide +kernel
theorem dX7_openRepeat_4 : decode cX7_openRepeat 4 = .ok (.iconst 2, 1) := by decide +kernel
theorem dX7_openRepeat_5 : decode cX7_openRepeat 5 = .ok (.if_icmp .lt 9, 3) := by decide +kernel
theorem dX7_openRepeat_8 : decode cX7_openRepeat 8 = .ok (.aload_n 0, 1) := by decide +kernel
theorem dX7_openRepeat_9 : decode cX7_openRepeat 9 = .ok (.iconst 4, 1) := by decide +kernel
theorem dX7_openRepeat_10 : decode cX7_openRepeat 10 = .ok (.invokevirtual 67, 3) := by decide +kernel
theorem dX7_openRepeat_13 : decode cX7_openRepeat 13 = .ok (.return_, 1) := by decide +kernel
theorem dX7_openRepeat_14 : decode cX7_openRepeat 14 = .ok (.aload_n 0, 1) := by decide +kernel
theorem dX7_openRepeat_15 : decode cX7_openRepeat 15 = .ok (.getstatic 105, 3) := by decide +kernel
theorem dX7_openRepeat_18 : decode cX7_openRepeat 18 = .ok (.invokevirtual 114, 3) := by decide +kernel
theorem dX7_openRepeat_21 : decode cX7_openRepeat 21 = .ok (.ifCond .eq 52, 3) := by decide +kernel
theorem dX7_openRepeat_24 : decode cX7_openRepeat 24 = .ok (.aload_n 0, 1) := by decide +kernel
theorem dX7_openRepeat_25 : decode cX7_openRepeat 25 = .ok (.iconst 3, 1) := by decide +kernel
theorem dX7_openRepeat_26 : decode cX7_openRepeat 26 = .ok (.invokevirtual 95, 3) := by decide +kernel
theorem dX7_openRepeat_29 : decode cX7_openRepeat 29 = .ok (.ifCond .eq 44, 3) := by decide +kernel
theorem dX7_openRepeat_32 : decode cX7_openRepeat 32 = .ok (.aload_n 0, 1) := by decide +kernel
theorem dX7_openRepeat_33 : decode cX7_openRepeat 33 = .ok (.getfield 46, 3) := by decide +kernel
theorem dX7_openRepeat_36 : decode cX7_openRepeat 36 = .ok (.aload_n 0, 1) := by decide +kernel
theorem dX7_openRepeat_37 : decode cX7_openRepeat 37 = .ok (.getfield 43, 3) := by decide +kernel
theorem dX7_openRepeat_40 : decode cX7_openRepeat 40 = .ok (.aload_n 0, 1) := by decide +kernel
theorem dX7_openRepeat_41 : decode cX7_openRepeat 41 = .ok (.getfield 12, 3) := by decide +kernel
theorem dX7_openRepeat_44 : decode cX7_openRepeat 44 = .ok (.getfield 78, 3) := by decide +kernel
theorem dX7_openRepeat_47 : decode cX7_openRepeat 47 = .ok (.iastore, 1) := by decide +kernel
theorem dX7_openRepeat_48 : decode cX7_openRepeat 48 = .ok (.aload_n 0, 1) := by decide +kernel
theorem dX7_openRepeat_49 : decode cX7_openRepeat 49 = .ok (.getfield 49, 3) := by decide +kernel
theorem dX7_openRepeat_52 : decode cX7_openRepeat 52 = .ok (.aload_n 0, 1) := by decide +kernel
theorem dX7_openRepeat_53 : decode cX7_openRepeat 53 = .ok (.getfield 43, 3) := by decide +kernel
theorem dX7_openRepeat_56 : decode cX7_openRepeat 56 = .ok (.aload_n 0, 1) := by decide +kernel
theorem dX7_openRepeat_57 : decode cX7_openRepeat 57 = .ok (.getfield 32, 3) := by decide +kernel
theorem dX7_openRepeat_60 : decode cX7_openRepeat 60 = .ok (.iconst 0, 1) := by decide +kernel
theorem dX7_openRepeat_61 : decode cX7_openRepeat 61 = .ok (.iaload, 1) := by decide +kernel
theorem dX7_openRepeat_62 : decode cX7_openRepeat 62 = .ok (.iastore, 1) := by decide +kernel
theorem dX7_openRepeat_63 : decode cX7_openRepeat 63 = .ok (.aload_n 0, 1) := by decide +kernel
theorem dX7_openRepeat_64 : decode cX7_openRepeat 64 = .ok (.dup, 1) := by decide +kernel
theorem dX7_openRepeat_65 : decode cX7_openRepeat 65 = .ok (.getfield 43, 3) := by decide +kernel
theorem dX7_openRepeat_68 : decode cX7_openRepeat 68 = .ok (.iconst 1, 1) := by decide +kernel
theorem dX7_openRepeat_69 : decode cX7_openRepeat 69 = .ok (.iadd, 1) := by decide +kernel
theorem dX7_openRepeat_70 : decode cX7_openRepeat 70 = .ok (.putfield 43, 3) := by decide +kernel
theorem dX7_openRepeat_73 : decode cX7_openRepeat 73 = .ok (.return_, 1) := by decide +kernel
theorem dX7_closeRound_0 : decode cX7_closeRound 0 = .ok (.aload_n 0, 1) := by decide +kernel
theorem dX7_closeRound_1 : decode cX7_closeRound 1 = .ok (.getfield 43, 3) := by decide +kernel
theorem dX7_closeRound_4 : decode cX7_closeRound 4 = .ok (.iconst 1, 1) := by decide +kernel
theorem dX7_closeRound_5 : decode cX7_closeRound 5 = .ok (.isub, 1) := by decide +kernel
theorem dX7_closeRound_6 : decode cX7_closeRound 6 = .ok (.istore_n 1, 1) := by decide +kernel
theorem dX7_closeRound_7 : decode cX7_closeRound 7 = .ok (.aload_n 0, 1) := by decide +kernel
theorem dX7_closeRound_8 : decode cX7_closeRound 8 = .ok (.getfield 49, 3) := by decide +kernel
theorem dX7_closeRound_11 : decode cX7_closeRound 11 = .ok (.iload_n 1, 1) := by decide +kernel
theorem dX7_closeRound_12 : decode cX7_closeRound 12 = .ok (.dup2, 1) := by decide +kernel
theorem dX7_closeRound_13 : decode cX7_closeRound 13 = .ok (.iaload, 1) := by decide +kernel
theorem dX7_closeRound_14 : decode cX7_closeRound 14 = .ok (.iconst 1, 1) := by decide +kernel
theorem dX7_closeRound_15 : decode cX7_closeRound 15 = .ok (.isub, 1) := by decide +kernel
theorem dX7_closeRound_16 : decode cX7_closeRound 16 = .ok (.iastore, 1) := by decide +kernel
theorem dX7_closeRound_17 : decode cX7_closeRound 17 = .ok (.aload_n 0, 1) := by decide +kernel
theorem dX7_closeRound_18 : decode cX7_closeRound 18 = .ok (.getfield 49, 3) := by decide +kernel
theorem dX7_closeRound_21 : decode cX7_closeRound 21 = .ok (.iload_n 1, 1) := by decide +kernel
theorem dX7_closeRound_22 : decode cX7_closeRound 22 = .ok (.iaload, 1) := by decide +kernel
theorem dX7_closeRound_23 : decode cX7_closeRound 23 = .ok (.ifCond .le 19, 3) := by decide +kernel
theorem dX7_closeRound_26 : decode cX7_closeRound 26 = .ok (.aload_n 0, 1) := by decide +kernel
theorem dX7_closeRound_27 : decode cX7_closeRound 27 = .ok (.getfield 12, 3) := by decide +kernel
theorem dX7_closeRound_30 : decode cX7_closeRound 30 = .ok (.aload_n 0, 1) := by decide +kernel
theorem dX7_closeRound_31 : decode cX7_closeRound 31 = .ok (.getfield 46, 3) := by decide +kernel
theorem dX7_closeRound_34 : decode cX7_closeRound 34 = .ok (.iload_n 1, 1) := by decide +kernel
theorem dX7_closeRound_35 : decode cX7_closeRound 35 = .ok (.iaload, 1) := by decide +kernel
theorem dX7_closeRound_36 : decode cX7_closeRound 36 = .ok (.putfield 78, 3) := by decide +kernel
theorem dX7_closeRound_39 : decode cX7_closeRound 39 = .ok (.goto 14, 3) := by decide +kernel
theorem dX7_closeRound_42 : decode cX7_closeRound 42 = .ok (.aload_n 0, 1) := by decide +kernel
theorem dX7_closeRound_43 : decode cX7_closeRound 43 = .ok (.iload_n 1, 1) := by decide +kernel
theorem dX7_closeRound_44 : decode cX7_closeRound 44 = .ok (.putfield 43, 3) := by decide +kernel
theorem dX7_closeRound_47 : decode cX7_closeRound 47 = .ok (.aload_n 0, 1) := by decide +kernel
theorem dX7_closeRound_48 : decode cX7_closeRound 48 = .ok (.iconst 5, 1) := by decide +kernel
theorem dX7_closeRound_49 : decode cX7_closeRound 49 = .ok (.invokevirtual 95, 3) := by decide +kernel
theorem dX7_closeRound_52 : decode cX7_closeRound 52 = .ok (.pop, 1) := by decide +kernel
theorem dX7_closeRound_53 : decode cX7_closeRound 53 = .ok (.return_, 1) := by decide +kernel
theorem dX7_readNumbers_0 : decode cX7_readNumbers 0 = .ok (.aload_n 1, 1) := by decide +kernel
theorem dX7_readNumbers_1 : decode cX7_readNumbers 1 = .ok (.getfield 125, 3) := by decide +kernel
theorem dX7_readNumbers_4 : decode cX7_readNumbers 4 = .ok (.astore_n 2, 1) := by decide +kernel
theorem dX7_readNumbers_5 : decode cX7_readNumbers 5 = .ok (.iconst 0, 1) := by decide +kernel
theorem dX7_readNumbers_6 : decode cX7_readNumbers 6 = .ok (.istore_n 3, 1) := by decide +kernel
theorem dX7_readNumbers_7 : decode cX7_readNumbers 7 = .ok (.iload_n 3, 1) := by decide +kernel
theorem dX7_readNumbers_8 : decode cX7_readNumbers 8 = .ok (.aload_n 2, 1) := by decide +kernel
theorem dX7_readNumbers_9 : decode cX7_readNumbers 9 = .ok (.invokevirtual 128, 3) := by decide +kernel
theorem dX7_readNumbers_12 : decode cX7_readNumbers 12 = .ok (.if_icmp .ge 63, 3) := by decide +kernel
theorem dX7_readNumbers_15 : decode cX7_readNumbers 15 = .ok (.iload_n 3, 1) := by decide +kernel
theorem dX7_readNumbers_16 : decode cX7_readNumbers 16 = .ok (.iconst 4, 1) := by decide +kernel
theorem dX7_readNumbers_17 : decode cX7_readNumbers 17 = .ok (.if_icmp .ge 58, 3) := by decide +kernel
theorem dX7_readNumbers_20 : decode cX7_readNumbers 20 = .ok (.aload_n 0, 1) := by decide +kernel
theorem dX7_readNumbers_21 : decode cX7_readNumbers 21 = .ok (.iconst 2, 1) := by decide +kernel
theorem dX7_readNumbers_22 : decode cX7_readNumbers 22 = .ok (.invokevirtual 95, 3) := by decide +kernel
theorem dX7_readNumbers_25 : decode cX7_readNumbers 25 = .ok (.ifCond .ne 5, 3) := by decide +kernel
theorem dX7_readNumbers_28 : decode cX7_readNumbers 28 = .ok (.iconst 0, 1) := by decide +kernel
theorem dX7_readNumbers_29 : decode cX7_readNumbers 29 = .ok (.ireturn, 1) := by decide +kernel
theorem dX7_readNumbers_30 : decode cX7_readNumbers 30 = .ok (.aload_n 0, 1) := by decide +kernel
theorem dX7_readNumbers_31 : decode cX7_readNumbers 31 = .ok (.aload_n 2, 1) := by decide +kernel
theorem dX7_readNumbers_32 : decode cX7_readNumbers 32 = .ok (.iload_n 3, 1) := by decide +kernel
theorem dX7_readNumbers_33 : decode cX7_readNumbers 33 = .ok (.invokevirtual 134, 3) := by decide +kernel
theorem dX7_readNumbers_36 : decode cX7_readNumbers 36 = .ok (.aload_n 0, 1) := by decide +kernel
theorem dX7_readNumbers_37 : decode cX7_readNumbers 37 = .ok (.getfield 12, 3) := by decide +kernel
theorem dX7_readNumbers_40 : decode cX7_readNumbers 40 = .ok (.getfield 138, 3) := by decide +kernel
theorem dX7_readNumbers_43 : decode cX7_readNumbers 43 = .ok (.invokevirtual 141, 3) := by decide +kernel
theorem dX7_readNumbers_46 : decode cX7_readNumbers 46 = .ok (.ifCond .ne 10, 3) := by decide +kernel
theorem dX7_readNumbers_49 : decode cX7_readNumbers 49 = .ok (.aload_n 0, 1) := by decide +kernel
theorem dX7_readNumbers_50 : decode cX7_readNumbers 50 = .ok (.iconst 2, 1) := by decide +kernel
theorem dX7_readNumbers_51 : decode cX7_readNumbers 51 = .ok (.invokevirtual 67, 3) := by decide +kernel
theorem dX7_readNumbers_54 : decode cX7_readNumbers 54 = .ok (.iconst 0, 1) := by decide +kernel
theorem dX7_readNumbers_55 : decode cX7_readNumbers 55 = .ok (.ireturn, 1) := by decide +kernel
theorem dX7_readNumbers_56 : decode cX7_readNumbers 56 = .ok (.aload_n 0, 1) := by decide +kernel
theorem dX7_readNumbers_57 : decode cX7_readNumbers 57 = .ok (.getfield 32, 3) := by decide +kernel
theorem dX7_readNumbers_60 : decode cX7_readNumbers 60 = .ok (.iload_n 3, 1) := by decide +kernel
theorem dX7_readNumbers_61 : decode cX7_readNumbers 61 = .ok (.aload_n 0, 1) := by decide +kernel
theorem dX7_readNumbers_62 : decode cX7_readNumbers 62 = .ok (.getfield 12, 3) := by decide +kernel
theorem dX7_readNumbers_65 : decode cX7_readNumbers 65 = .ok (.getfield 138, 3) := by decide +kernel
theorem dX7_readNumbers_68 : decode cX7_readNumbers 68 = .ok (.iastore, 1) := by decide +kernel
theorem dX7_readNumbers_69 : decode cX7_readNumbers 69 = .ok (.iinc 3 1, 3) := by decide +kernel
theorem dX7_readNumbers_72 : decode cX7_readNumbers 72 = .ok (.goto (-65), 3) := by decide +kernel
theorem dX7_readNumbers_75 : decode cX7_readNumbers 75 = .ok (.iconst 1, 1) := by decide +kernel
theorem dX7_readNumbers_76 : decode cX7_readNumbers 76 = .ok (.ireturn, 1) := by decide +kernel
theorem dX7_fits_0 : decode cX7_fits 0 = .ok (.iload_n 1, 1) := by decide +kernel
theorem dX7_fits_1 : decode cX7_fits 1 = .ok (.lookupswitch 277 #[(67, 144), (72, 108), (99, 135), (102, 209), (103, 171), (104, 99), (110, 243), (114, 260), (115, 192), (116, 226), (119, 180)], 99) := by decide +kernel
theorem dX7_fits_100 : decode cX7_fits 100 = .ok (.aload_n 0, 1) := by decide +kernel
theorem dX7_fits_101 : decode cX7_fits 101 = .ok (.getfield 21, 3) := by decide +kernel
theorem dX7_fits_104 : decode cX7_fits 104 = .ok (.iload_n 2, 1) := by decide +kernel
theorem dX7_fits_105 : decode cX7_fits 105 = .ok (.invokevirtual 145, 3) := by decide +kernel
theorem dX7_fits_108 : decode cX7_fits 108 = .ok (.ireturn, 1) := by decide +kernel
theorem dX7_fits_109 : decode cX7_fits 109 = .ok (.aload_n 0, 1) := by decide +kernel
theorem dX7_fits_110 : decode cX7_fits 110 = .ok (.getfield 21, 3) := by decide +kernel
theorem dX7_fits_113 : decode cX7_fits 113 = .ok (.iload_n 2, 1) := by decide +kernel
theorem dX7_fits_114 : decode cX7_fits 114 = .ok (.invokevirtual 145, 3) := by decide +kernel
theorem dX7_fits_117 : decode cX7_fits 117 = .ok (.ifCond .eq 17, 3) := by decide +kernel
theorem dX7_fits_120 : decode cX7_fits 120 = .ok (.iload_n 2, 1) := by decide +kernel
theorem dX7_fits_121 : decode cX7_fits 121 = .ok (.aload_n 0, 1) := by decide +kernel
theorem dX7_fits_122 : decode cX7_fits 122 = .ok (.getfield 32, 3) := by decide +kernel
theorem dX7_fits_125 : decode cX7_fits 125 = .ok (.iconst 0, 1) := by decide +kernel
theorem dX7_fits_126 : decode cX7_fits 126 = .ok (.iaload, 1) := by decide +kernel
theorem dX7_fits_127 : decode cX7_fits 127 = .ok (.if_icmp .eq 7, 3) := by decide +kernel
theorem dX7_fits_130 : decode cX7_fits 130 = .ok (.iconst 1, 1) := by decide +kernel
theorem dX7_fits_131 : decode cX7_fits 131 = .ok (.goto 4, 3) := by decide +kernel
theorem dX7_fits_134 : decode cX7_fits 134 = .ok (.iconst 0, 1) := by decide +kernel
theorem dX7_fits_135 : decode cX7_fits 135 = .ok (.ireturn, 1) := by decide +kernel
theorem dX7_fits_136 : decode cX7_fits 136 = .ok (.aload_n 0, 1) := by decide +kernel
theorem dX7_fits_137 : decode cX7_fits 137 = .ok (.getfield 21, 3) := by decide +kernel
theorem dX7_fits_140 : decode cX7_fits 140 = .ok (.iload_n 2, 1) := by decide +kernel
theorem dX7_fits_141 : decode cX7_fits 141 = .ok (.invokevirtual 148, 3) := by decide +kernel
theorem dX7_fits_144 : decode cX7_fits 144 = .ok (.ireturn, 1) := by decide +kernel
theorem dX7_fits_145 : decode cX7_fits 145 = .ok (.aload_n 0, 1) := by decide +kernel
theorem dX7_fits_146 : decode cX7_fits 146 = .ok (.getfield 21, 3) := by decide +kernel
theorem dX7_fits_149 : decode cX7_fits 149 = .ok (.iload_n 2, 1) := by decide +kernel
theorem dX7_fits_150 : decode cX7_fits 150 = .ok (.invokevirtual 148, 3) := by decide +kernel
theorem dX7_fits_153 : decode cX7_fits 153 = .ok (.ifCond .eq 17, 3) := by decide +kernel
theorem dX7_fits_156 : decode cX7_fits 156 = .ok (.iload_n 2, 1) := by decide +kernel
theorem dX7_fits_157 : decode cX7_fits 157 = .ok (.aload_n 0, 1) := by decide +kernel
theorem dX7_fits_158 : decode cX7_fits 158 = .ok (.getfield 32, 3) := by decide +kernel
theorem dX7_fits_161 : decode cX7_fits 161 = .ok (.iconst 0, 1) := by decide +kernel
theorem dX7_fits_162 : decode cX7_fits 162 = .ok (.iaload, 1) := by decide +kernel
theorem dX7_fits_163 : decode cX7_fits 163 = .ok (.if_icmp .eq 7, 3) := by decide +kernel
theorem dX7_fits_166 : decode cX7_fits 166 = .ok (.iconst 1, 1) := by decide +kernel
theorem dX7_fits_167 : decode cX7_fits 167 = .ok (.goto 4, 3) := by decide +kernel
theorem dX7_fits_170 : decode cX7_fits 170 = .ok (.iconst 0, 1) := by decide +kernel
theorem dX7_fits_171 : decode cX7_fits 171 = .ok (.ireturn, 1) := by decide +kernel
theorem dX7_fits_172 : decode cX7_fits 172 = .ok (.aload_n 0, 1) := by decide +kernel
theorem dX7_fits_173 : decode cX7_fits 173 = .ok (.getfield 21, 3) := by decide +kernel
theorem dX7_fits_176 : decode cX7_fits 176 = .ok (.iload_n 2, 1) := by decide +kernel
theorem dX7_fits_177 : decode cX7_fits 177 = .ok (.invokevirtual 151, 3) := by decide +kernel
theorem dX7_fits_180 : decode cX7_fits 180 = .ok (.ireturn, 1) := by decide +kernel
theorem dX7_fits_181 : decode cX7_fits 181 = .ok (.iload_n 2, 1) := by decide +kernel
theorem dX7_fits_182 : decode cX7_fits 182 = .ok (.bipush 9, 2) := by decide +kernel
theorem dX7_fits_184 : decode cX7_fits 184 = .ok (.if_icmp .gt 7, 3) := by decide +kernel
theorem dX7_fits_187 : decode cX7_fits 187 = .ok (.iconst 1, 1) := by decide +kernel
theorem dX7_fits_188 : decode cX7_fits 188 = .ok (.goto 4, 3) := by decide +kernel
theorem dX7_fits_191 : decode cX7_fits 191 = .ok (.iconst 0, 1) := by decide +kernel
theorem dX7_fits_192 : decode cX7_fits 192 = .ok (.ireturn, 1) := by decide +kernel
theorem dX7_fits_193 : decode cX7_fits 193 = .ok (.iload_n 2, 1) := by decide +kernel
theorem dX7_fits_194 : decode cX7_fits 194 = .ok (.iconst 1, 1) := by decide +kernel
theorem dX7_fits_195 : decode cX7_fits 195 = .ok (.if_icmp .lt 13, 3) := by decide +kernel
theorem dX7_fits_198 : decode cX7_fits 198 = .ok (.iload_n 2, 1) := by decide +kernel
theorem dX7_fits_199 : decode cX7_fits 199 = .ok (.bipush 9, 2) := by decide +kernel
theorem dX7_fits_201 : decode cX7_fits 201 = .ok (.if_icmp .gt 7, 3) := by decide +kernel
theorem dX7_fits_204 : decode cX7_fits 204 = .ok (.iconst 1, 1) := by decide +kernel
theorem dX7_fits_205 : decode cX7_fits 205 = .ok (.goto 4, 3) := by decide +kernel
theorem dX7_fits_208 : decode cX7_fits 208 = .ok (.iconst 0, 1) := by decide +kernel
theorem dX7_fits_209 : decode cX7_fits 209 = .ok (.ireturn, 1) := by decide +kernel
theorem dX7_fits_210 : decode cX7_fits 210 = .ok (.iload_n 2, 1) := by decide +kernel
theorem dX7_fits_211 : decode cX7_fits 211 = .ok (.iconst 1, 1) := by decide +kernel
theorem dX7_fits_212 : decode cX7_fits 212 = .ok (.if_icmp .lt 13, 3) := by decide +kernel
theorem dX7_fits_215 : decode cX7_fits 215 = .ok (.iload_n 2, 1) := by decide +kernel
theorem dX7_fits_216 : decode cX7_fits 216 = .ok (.bipush 9, 2) := by decide +kernel
theorem dX7_fits_218 : decode cX7_fits 218 = .ok (.if_icmp .gt 7, 3) := by decide +kernel
theorem dX7_fits_221 : decode cX7_fits 221 = .ok (.iconst 1, 1) := by decide +kernel
theorem dX7_fits_222 : decode cX7_fits 222 = .ok (.goto 4, 3) := by decide +kernel
theorem dX7_fits_225 : decode cX7_fits 225 = .ok (.iconst 0, 1) := by decide +kernel
theorem dX7_fits_226 : decode cX7_fits 226 = .ok (.ireturn, 1) := by decide +kernel
theorem dX7_fits_227 : decode cX7_fits 227 = .ok (.iload_n 2, 1) := by decide +kernel
theorem dX7_fits_228 : decode cX7_fits 228 = .ok (.iconst 1, 1) := by decide +kernel
theorem dX7_fits_229 : decode cX7_fits 229 = .ok (.if_icmp .lt 13, 3) := by decide +kernel
theorem dX7_fits_232 : decode cX7_fits 232 = .ok (.iload_n 2, 1) := by decide +kernel
theorem dX7_fits_233 : decode cX7_fits 233 = .ok (.bipush 20, 2) := by decide +kernel
theorem dX7_fits_235 : decode cX7_fits 235 = .ok (.if_icmp .gt 7, 3) := by decide +kernel
theorem dX7_fits_238 : decode cX7_fits 238 = .ok (.iconst 1, 1) := by decide +kernel
theorem dX7_fits_239 : decode cX7_fits 239 = .ok (.goto 4, 3) := by decide +kernel
theorem dX7_fits_242 : decode cX7_fits 242 = .ok (.iconst 0, 1) := by decide +kernel
theorem dX7_fits_243 : decode cX7_fits 243 = .ok (.ireturn, 1) := by decide +kernel
theorem dX7_fits_244 : decode cX7_fits 244 = .ok (.iload_n 2, 1) := by decide +kernel
theorem dX7_fits_245 : decode cX7_fits 245 = .ok (.iconst 1, 1) := by decide +kernel
theorem dX7_fits_246 : decode cX7_fits 246 = .ok (.if_icmp .lt 13, 3) := by decide +kernel
theorem dX7_fits_249 : decode cX7_fits 249 = .ok (.iload_n 2, 1) := by decide +kernel
theorem dX7_fits_250 : decode cX7_fits 250 = .ok (.bipush 30, 2) := by decide +kernel
theorem dX7_fits_252 : decode cX7_fits 252 = .ok (.if_icmp .gt 7, 3) := by decide +kernel
theorem dX7_fits_255 : decode cX7_fits 255 = .ok (.iconst 1, 1) := by decide +kernel
theorem dX7_fits_256 : decode cX7_fits 256 = .ok (.goto 4, 3) := by decide +kernel
theorem dX7_fits_259 : decode cX7_fits 259 = .ok (.iconst 0, 1) := by decide +kernel
theorem dX7_fits_260 : decode cX7_fits 260 = .ok (.ireturn, 1) := by decide +kernel
theorem dX7_fits_261 : decode cX7_fits 261 = .ok (.iload_n 2, 1) := by decide +kernel
theorem dX7_fits_262 : decode cX7_fits 262 = .ok (.iconst 1, 1) := by decide +kernel
theorem dX7_fits_263 : decode cX7_fits 263 = .ok (.if_icmp .lt 13, 3) := by decide +kernel
theorem dX7_fits_266 : decode cX7_fits 266 = .ok (.iload_n 2, 1) := by decide +kernel
theorem dX7_fits_267 : decode cX7_fits 267 = .ok (.bipush 20, 2) := by decide +kernel
theorem dX7_fits_269 : decode cX7_fits 269 = .ok (.if_icmp .gt 7, 3) := by decide +kernel
theorem dX7_fits_272 : decode cX7_fits 272 = .ok (.iconst 1, 1) := by decide +kernel
theorem dX7_fits_273 : decode cX7_fits 273 = .ok (.goto 4, 3) := by decide +kernel
theorem dX7_fits_276 : decode cX7_fits 276 = .ok (.iconst 0, 1) := by decide +kernel
theorem dX7_fits_277 : decode cX7_fits 277 = .ok (.ireturn, 1) := by decide +kernel
theorem dX7_fits_278 : decode cX7_fits 278 = .ok (.iconst 0, 1) := by decide +kernel
theorem dX7_fits_279 : decode cX7_fits 279 = .ok (.ireturn, 1) := by decide +kernel
theorem dX7_isRefused_0 : decode cX7_isRefused 0 = .ok (.aload_n 0, 1) := by decide +kernel
theorem dX7_isRefused_1 : decode cX7_isRefused 1 = .ok (.getfield 32, 3) := by decide +kernel
theorem dX7_isRefused_4 : decode cX7_isRefused 4 = .ok (.iconst 0, 1) := by decide +kernel
theorem dX7_isRefused_5 : decode cX7_isRefused 5 = .ok (.iaload, 1) := by decide +kernel
theorem dX7_isRefused_6 : decode cX7_isRefused 6 = .ok (.istore_n 2, 1) := by decide +kernel
theorem dX7_isRefused_7 : decode cX7_isRefused 7 = .ok (.aload_n 0, 1) := by decide +kernel
theorem dX7_isRefused_8 : decode cX7_isRefused 8 = .ok (.getfield 32, 3) := by decide +kernel
theorem dX7_isRefused_11 : decode cX7_isRefused 11 = .ok (.iconst 1, 1) := by decide +kernel
theorem dX7_isRefused_12 : decode cX7_isRefused 12 = .ok (.iaload, 1) := by decide +kernel
theorem dX7_isRefused_13 : decode cX7_isRefused 13 = .ok (.istore_n 3, 1) := by decide +kernel
theorem dX7_isRefused_14 : decode cX7_isRefused 14 = .ok (.getstatic 154, 3) := by decide +kernel
theorem dX7_isRefused_17 : decode cX7_isRefused 17 = .ok (.aload_n 1, 1) := by decide +kernel
theorem dX7_isRefused_18 : decode cX7_isRefused 18 = .ok (.invokevirtual 159, 3) := by decide +kernel
theorem dX7_isRefused_21 : decode cX7_isRefused 21 = .ok (.iaload, 1) := by decide +kernel
theorem dX7_isRefused_22 : decode cX7_isRefused 22 = .ok (.tableswitch 221 1 12 #[62, 80, 98, 107, 125, 142, 161, 179, 195, 203, 203, 212], 62) := by decide +kernel
theorem dX7_isRefused_84 : decode cX7_isRefused 84 = .ok (.aload_n 0, 1) := by decide +kernel
theorem dX7_isRefused_85 : decode cX7_isRefused 85 = .ok (.getfield 21, 3) := by decide +kernel
theorem dX7_isRefused_88 : decode cX7_isRefused 88 = .ok (.getfield 162, 3) := by decide +kernel
theorem dX7_isRefused_91 : decode cX7_isRefused 91 = .ok (.bipush 10, 2) := by decide +kernel
theorem dX7_isRefused_93 : decode cX7_isRefused 93 = .ok (.if_icmp .lt 7, 3) := by decide +kernel
theorem dX7_isRefused_96 : decode cX7_isRefused 96 = .ok (.iconst 1, 1) := by decide +kernel
theorem dX7_isRefused_97 : decode cX7_isRefused 97 = .ok (.goto 4, 3) := by decide +kernel
theorem dX7_isRefused_100 : decode cX7_isRefused 100 = .ok (.iconst 0, 1) := by decide +kernel
theorem dX7_isRefused_101 : decode cX7_isRefused 101 = .ok (.ireturn, 1) := by decide +kernel
theorem dX7_isRefused_102 : decode cX7_isRefused 102 = .ok (.aload_n 0, 1) := by decide +kernel
theorem dX7_isRefused_103 : decode cX7_isRefused 103 = .ok (.getfield 21, 3) := by decide +kernel
theorem dX7_isRefused_106 : decode cX7_isRefused 106 = .ok (.getfield 165, 3) := by decide +kernel
theorem dX7_isRefused_109 : decode cX7_isRefused 109 = .ok (.bipush 20, 2) := by decide +kernel
theorem dX7_isRefused_111 : decode cX7_isRefused 111 = .ok (.if_icmp .lt 7, 3) := by decide +kernel
theorem dX7_isRefused_114 : decode cX7_isRefused 114 = .ok (.iconst 1, 1) := by decide +kernel
theorem dX7_isRefused_115 : decode cX7_isRefused 115 = .ok (.goto 4, 3) := by decide +kernel
theorem dX7_isRefused_118 : decode cX7_isRefused 118 = .ok (.iconst 0, 1) := by decide +kernel
theorem dX7_isRefused_119 : decode cX7_isRefused 119 = .ok (.ireturn, 1) := by decide +kernel
theorem dX7_isRefused_120 : decode cX7_isRefused 120 = .ok (.aload_n 0, 1) := by decide +kernel
theorem dX7_isRefused_121 : decode cX7_isRefused 121 = .ok (.getfield 21, 3) := by decide +kernel
theorem dX7_isRefused_124 : decode cX7_isRefused 124 = .ok (.iload_n 2, 1) := by decide +kernel
theorem dX7_isRefused_125 : decode cX7_isRefused 125 = .ok (.invokevirtual 168, 3) := by decide +kernel
theorem dX7_isRefused_128 : decode cX7_isRefused 128 = .ok (.ireturn, 1) := by decide +kernel
theorem dX7_isRefused_129 : decode cX7_isRefused 129 = .ok (.aload_n 0, 1) := by decide +kernel
theorem dX7_isRefused_130 : decode cX7_isRefused 130 = .ok (.getfield 21, 3) := by decide +kernel
theorem dX7_isRefused_133 : decode cX7_isRefused 133 = .ok (.iload_n 2, 1) := by decide +kernel
theorem dX7_isRefused_134 : decode cX7_isRefused 134 = .ok (.iload_n 3, 1) := by decide +kernel
theorem dX7_isRefused_135 : decode cX7_isRefused 135 = .ok (.invokevirtual 171, 3) := by decide +kernel
theorem dX7_isRefused_138 : decode cX7_isRefused 138 = .ok (.ifCond .eq 7, 3) := by decide +kernel
theorem dX7_isRefused_141 : decode cX7_isRefused 141 = .ok (.iconst 1, 1) := by decide +kernel
theorem dX7_isRefused_142 : decode cX7_isRefused 142 = .ok (.goto 4, 3) := by decide +kernel
theorem dX7_isRefused_145 : decode cX7_isRefused 145 = .ok (.iconst 0, 1) := by decide +kernel
theorem dX7_isRefused_146 : decode cX7_isRefused 146 = .ok (.ireturn, 1) := by decide +kernel
theorem dX7_isRefused_147 : decode cX7_isRefused 147 = .ok (.aload_n 0, 1) := by decide +kernel
theorem dX7_isRefused_148 : decode cX7_isRefused 148 = .ok (.getfield 21, 3) := by decide +kernel
theorem dX7_isRefused_151 : decode cX7_isRefused 151 = .ok (.iload_n 2, 1) := by decide +kernel
theorem dX7_isRefused_152 : decode cX7_isRefused 152 = .ok (.invokevirtual 175, 3) := by decide +kernel
theorem dX7_isRefused_155 : decode cX7_isRefused 155 = .ok (.ifCond .eq 7, 3) := by decide +kernel
theorem dX7_isRefused_158 : decode cX7_isRefused 158 = .ok (.iconst 1, 1) := by decide +kernel
theorem dX7_isRefused_159 : decode cX7_isRefused 159 = .ok (.goto 4, 3) := by decide +kernel
theorem dX7_isRefused_162 : decode cX7_isRefused 162 = .ok (.iconst 0, 1) := by decide +kernel
theorem dX7_isRefused_163 : decode cX7_isRefused 163 = .ok (.ireturn, 1) := by decide +kernel
theorem dX7_isRefused_164 : decode cX7_isRefused 164 = .ok (.aload_n 0, 1) := by decide +kernel
theorem dX7_isRefused_165 : decode cX7_isRefused 165 = .ok (.getfield 21, 3) := by decide +kernel
theorem dX7_isRefused_168 : decode cX7_isRefused 168 = .ok (.getfield 179, 3) := by decide +kernel
theorem dX7_isRefused_171 : decode cX7_isRefused 171 = .ok (.iload_n 2, 1) := by decide +kernel
theorem dX7_isRefused_172 : decode cX7_isRefused 172 = .ok (.iaload, 1) := by decide +kernel
theorem dX7_isRefused_173 : decode cX7_isRefused 173 = .ok (.iconst (-1), 1) := by decide +kernel
theorem dX7_isRefused_174 : decode cX7_isRefused 174 = .ok (.if_icmp .ne 7, 3) := by decide +kernel
theorem dX7_isRefused_177 : decode cX7_isRefused 177 = .ok (.iconst 1, 1) := by decide +kernel
theorem dX7_isRefused_178 : decode cX7_isRefused 178 = .ok (.goto 4, 3) := by decide +kernel
theorem dX7_isRefused_181 : decode cX7_isRefused 181 = .ok (.iconst 0, 1) := by decide +kernel
theorem dX7_isRefused_182 : decode cX7_isRefused 182 = .ok (.ireturn, 1) := by decide +kernel
theorem dX7_isRefused_183 : decode cX7_isRefused 183 = .ok (.aload_n 0, 1) := by decide +kernel
theorem dX7_isRefused_184 : decode cX7_isRefused 184 = .ok (.getfield 21, 3) := by decide +kernel
theorem dX7_isRefused_187 : decode cX7_isRefused 187 = .ok (.iload_n 2, 1) := by decide +kernel
theorem dX7_isRefused_188 : decode cX7_isRefused 188 = .ok (.iload_n 3, 1) := by decide +kernel
theorem dX7_isRefused_189 : decode cX7_isRefused 189 = .ok (.invokevirtual 182, 3) := by decide +kernel
theorem dX7_isRefused_192 : decode cX7_isRefused 192 = .ok (.ifCond .eq 7, 3) := by decide +kernel
theorem dX7_isRefused_195 : decode cX7_isRefused 195 = .ok (.iconst 1, 1) := by decide +kernel
theorem dX7_isRefused_196 : decode cX7_isRefused 196 = .ok (.goto 4, 3) := by decide +kernel
theorem dX7_isRefused_199 : decode cX7_isRefused 199 = .ok (.iconst 0, 1) := by decide +kernel
theorem dX7_isRefused_200 : decode cX7_isRefused 200 = .ok (.ireturn, 1) := by decide +kernel
theorem dX7_isRefused_201 : decode cX7_isRefused 201 = .ok (.aload_n 0, 1) := by decide +kernel
theorem dX7_isRefused_202 : decode cX7_isRefused 202 = .ok (.getfield 21, 3) := by decide +kernel
theorem dX7_isRefused_205 : decode cX7_isRefused 205 = .ok (.iload_n 2, 1) := by decide +kernel
theorem dX7_isRefused_206 : decode cX7_isRefused 206 = .ok (.iload_n 3, 1) := by decide +kernel
theorem dX7_isRefused_207 : decode cX7_isRefused 207 = .ok (.aload_n 0, 1) := by decide +kernel
theorem dX7_isRefused_208 : decode cX7_isRefused 208 = .ok (.getfield 32, 3) := by decide +kernel
theorem dX7_isRefused_211 : decode cX7_isRefused 211 = .ok (.iconst 2, 1) := by decide +kernel
theorem dX7_isRefused_212 : decode cX7_isRefused 212 = .ok (.iaload, 1) := by decide +kernel
theorem dX7_isRefused_213 : decode cX7_isRefused 213 = .ok (.invokevirtual 185, 3) := by decide +kernel
theorem dX7_isRefused_216 : decode cX7_isRefused 216 = .ok (.ireturn, 1) := by decide +kernel
theorem dX7_isRefused_217 : decode cX7_isRefused 217 = .ok (.aload_n 0, 1) := by decide +kernel
theorem dX7_isRefused_218 : decode cX7_isRefused 218 = .ok (.getfield 21, 3) := by decide +kernel
theorem dX7_isRefused_221 : decode cX7_isRefused 221 = .ok (.invokevirtual 189, 3) := by decide +kernel
theorem dX7_isRefused_224 : decode cX7_isRefused 224 = .ok (.ireturn, 1) := by decide +kernel
theorem dX7_isRefused_225 : decode cX7_isRefused 225 = .ok (.aload_n 0, 1) := by decide +kernel
theorem dX7_isRefused_226 : decode cX7_isRefused 226 = .ok (.getfield 21, 3) := by decide +kernel
theorem dX7_isRefused_229 : decode cX7_isRefused 229 = .ok (.iload_n 2, 1) := by decide +kernel
theorem dX7_isRefused_230 : decode cX7_isRefused 230 = .ok (.invokevirtual 193, 3) := by decide +kernel
theorem dX7_isRefused_233 : decode cX7_isRefused 233 = .ok (.ireturn, 1) := by decide +kernel
theorem dX7_isRefused_234 : decode cX7_isRefused 234 = .ok (.aload_n 0, 1) := by decide +kernel
theorem dX7_isRefused_235 : decode cX7_isRefused 235 = .ok (.getfield 21, 3) := by decide +kernel
theorem dX7_isRefused_238 : decode cX7_isRefused 238 = .ok (.iload_n 2, 1) := by decide +kernel
theorem dX7_isRefused_239 : decode cX7_isRefused 239 = .ok (.invokevirtual 196, 3) := by decide +kernel
theorem dX7_isRefused_242 : decode cX7_isRefused 242 = .ok (.ireturn, 1) := by decide +kernel
theorem dX7_isRefused_243 : decode cX7_isRefused 243 = .ok (.iconst 1, 1) := by decide +kernel
theorem dX7_isRefused_244 : decode cX7_isRefused 244 = .ok (.ireturn, 1) := by decide +kernel
theorem dX7_apply_0 : decode cX7_apply 0 = .ok (.aload_n 0, 1) := by decide +kernel
theorem dX7_apply_1 : decode cX7_apply 1 = .ok (.getfield 32, 3) := by decide +kernel
theorem dX7_apply_4 : decode cX7_apply 4 = .ok (.iconst 0, 1) := by decide +kernel
theorem dX7_apply_5 : decode cX7_apply 5 = .ok (.iaload, 1) := by decide +kernel
theorem dX7_apply_6 : decode cX7_apply 6 = .ok (.istore_n 2, 1) := by decide +kernel
theorem dX7_apply_7 : decode cX7_apply 7 = .ok (.aload_n 0, 1) := by decide +kernel
theorem dX7_apply_8 : decode cX7_apply 8 = .ok (.getfield 32, 3) := by decide +kernel
theorem dX7_apply_11 : decode cX7_apply 11 = .ok (.iconst 1, 1) := by decide +kernel
theorem dX7_apply_12 : decode cX7_apply 12 = .ok (.iaload, 1) := by decide +kernel
theorem dX7_apply_13 : decode cX7_apply 13 = .ok (.istore_n 3, 1) := by decide +kernel
theorem dX7_apply_14 : decode cX7_apply 14 = .ok (.getstatic 154, 3) := by decide +kernel
theorem dX7_apply_17 : decode cX7_apply 17 = .ok (.aload_n 1, 1) := by decide +kernel
theorem dX7_apply_18 : decode cX7_apply 18 = .ok (.invokevirtual 159, 3) := by decide +kernel
theorem dX7_apply_21 : decode cX7_apply 21 = .ok (.iaload, 1) := by decide +kernel
theorem dX7_apply_22 : decode cX7_apply 22 = .ok (.tableswitch 238 1 12 #[62, 74, 93, 112, 125, 137, 149, 162, 187, 202, 202, 226], 62) := by decide +kernel
theorem dX7_apply_84 : decode cX7_apply 84 = .ok (.aload_n 0, 1) := by decide +kernel
theorem dX7_apply_85 : decode cX7_apply 85 = .ok (.getfield 21, 3) := by decide +kernel
theorem dX7_apply_88 : decode cX7_apply 88 = .ok (.iload_n 2, 1) := by decide +kernel
theorem dX7_apply_89 : decode cX7_apply 89 = .ok (.invokevirtual 199, 3) := by decide +kernel
theorem dX7_apply_92 : decode cX7_apply 92 = .ok (.pop, 1) := by decide +kernel
theorem dX7_apply_93 : decode cX7_apply 93 = .ok (.goto 167, 3) := by decide +kernel
theorem dX7_apply_96 : decode cX7_apply 96 = .ok (.aload_n 0, 1) := by decide +kernel
theorem dX7_apply_97 : decode cX7_apply 97 = .ok (.getfield 21, 3) := by decide +kernel
theorem dX7_apply_100 : decode cX7_apply 100 = .ok (.iload_n 2, 1) := by decide +kernel
theorem dX7_apply_101 : decode cX7_apply 101 = .ok (.iload_n 3, 1) := by decide +kernel
theorem dX7_apply_102 : decode cX7_apply 102 = .ok (.aload_n 0, 1) := by decide +kernel
theorem dX7_apply_103 : decode cX7_apply 103 = .ok (.getfield 32, 3) := by decide +kernel
theorem dX7_apply_106 : decode cX7_apply 106 = .ok (.iconst 2, 1) := by decide +kernel
theorem dX7_apply_107 : decode cX7_apply 107 = .ok (.iaload, 1) := by decide +kernel
theorem dX7_apply_108 : decode cX7_apply 108 = .ok (.invokevirtual 202, 3) := by decide +kernel
theorem dX7_apply_111 : decode cX7_apply 111 = .ok (.pop, 1) := by decide +kernel
theorem dX7_apply_112 : decode cX7_apply 112 = .ok (.goto 148, 3) := by decide +kernel
theorem dX7_apply_115 : decode cX7_apply 115 = .ok (.aload_n 0, 1) := by decide +kernel
theorem dX7_apply_116 : decode cX7_apply 116 = .ok (.getfield 21, 3) := by decide +kernel
theorem dX7_apply_119 : decode cX7_apply 119 = .ok (.iload_n 2, 1) := by decide +kernel
theorem dX7_apply_120 : decode cX7_apply 120 = .ok (.iload_n 3, 1) := by decide +kernel
theorem dX7_apply_121 : decode cX7_apply 121 = .ok (.aload_n 0, 1) := by decide +kernel
theorem dX7_apply_122 : decode cX7_apply 122 = .ok (.getfield 32, 3) := by decide +kernel
theorem dX7_apply_125 : decode cX7_apply 125 = .ok (.iconst 2, 1) := by decide +kernel
theorem dX7_apply_126 : decode cX7_apply 126 = .ok (.iaload, 1) := by decide +kernel
theorem dX7_apply_127 : decode cX7_apply 127 = .ok (.invokevirtual 206, 3) := by decide +kernel
theorem dX7_apply_130 : decode cX7_apply 130 = .ok (.pop, 1) := by decide +kernel
theorem dX7_apply_131 : decode cX7_apply 131 = .ok (.goto 129, 3) := by decide +kernel
theorem dX7_apply_134 : decode cX7_apply 134 = .ok (.aload_n 0, 1) := by decide +kernel
theorem dX7_apply_135 : decode cX7_apply 135 = .ok (.getfield 21, 3) := by decide +kernel
theorem dX7_apply_138 : decode cX7_apply 138 = .ok (.iload_n 2, 1) := by decide +kernel
theorem dX7_apply_139 : decode cX7_apply 139 = .ok (.iload_n 3, 1) := by decide +kernel
theorem dX7_apply_140 : decode cX7_apply 140 = .ok (.invokevirtual 209, 3) := by decide +kernel
theorem dX7_apply_143 : decode cX7_apply 143 = .ok (.pop, 1) := by decide +kernel
theorem dX7_apply_144 : decode cX7_apply 144 = .ok (.goto 116, 3) := by decide +kernel
theorem dX7_apply_147 : decode cX7_apply 147 = .ok (.aload_n 0, 1) := by decide +kernel
theorem dX7_apply_148 : decode cX7_apply 148 = .ok (.getfield 21, 3) := by decide +kernel
theorem dX7_apply_151 : decode cX7_apply 151 = .ok (.iload_n 2, 1) := by decide +kernel
theorem dX7_apply_152 : decode cX7_apply 152 = .ok (.invokevirtual 212, 3) := by decide +kernel
theorem dX7_apply_155 : decode cX7_apply 155 = .ok (.pop, 1) := by decide +kernel
theorem dX7_apply_156 : decode cX7_apply 156 = .ok (.goto 104, 3) := by decide +kernel
theorem dX7_apply_159 : decode cX7_apply 159 = .ok (.aload_n 0, 1) := by decide +kernel
theorem dX7_apply_160 : decode cX7_apply 160 = .ok (.getfield 21, 3) := by decide +kernel
theorem dX7_apply_163 : decode cX7_apply 163 = .ok (.iload_n 2, 1) := by decide +kernel
theorem dX7_apply_164 : decode cX7_apply 164 = .ok (.invokevirtual 215, 3) := by decide +kernel
theorem dX7_apply_167 : decode cX7_apply 167 = .ok (.pop, 1) := by decide +kernel
theorem dX7_apply_168 : decode cX7_apply 168 = .ok (.goto 92, 3) := by decide +kernel
theorem dX7_apply_171 : decode cX7_apply 171 = .ok (.aload_n 0, 1) := by decide +kernel
theorem dX7_apply_172 : decode cX7_apply 172 = .ok (.getfield 21, 3) := by decide +kernel
theorem dX7_apply_175 : decode cX7_apply 175 = .ok (.iload_n 2, 1) := by decide +kernel
theorem dX7_apply_176 : decode cX7_apply 176 = .ok (.iload_n 3, 1) := by decide +kernel
theorem dX7_apply_177 : decode cX7_apply 177 = .ok (.invokevirtual 218, 3) := by decide +kernel
theorem dX7_apply_180 : decode cX7_apply 180 = .ok (.pop, 1) := by decide +kernel
theorem dX7_apply_181 : decode cX7_apply 181 = .ok (.goto 79, 3) := by decide +kernel
theorem dX7_apply_184 : decode cX7_apply 184 = .ok (.aload_n 0, 1) := by decide +kernel
theorem dX7_apply_185 : decode cX7_apply 185 = .ok (.getfield 21, 3) := by decide +kernel
theorem dX7_apply_188 : decode cX7_apply 188 = .ok (.iload_n 2, 1) := by decide +kernel
theorem dX7_apply_189 : decode cX7_apply 189 = .ok (.iload_n 3, 1) := by decide +kernel
theorem dX7_apply_190 : decode cX7_apply 190 = .ok (.aload_n 0, 1) := by decide +kernel
theorem dX7_apply_191 : decode cX7_apply 191 = .ok (.getfield 32, 3) := by decide +kernel
theorem dX7_apply_194 : decode cX7_apply 194 = .ok (.iconst 2, 1) := by decide +kernel
theorem dX7_apply_195 : decode cX7_apply 195 = .ok (.iaload, 1) := by decide +kernel
theorem dX7_apply_196 : decode cX7_apply 196 = .ok (.aload_n 0, 1) := by decide +kernel
theorem dX7_apply_197 : decode cX7_apply 197 = .ok (.getfield 32, 3) := by decide +kernel
theorem dX7_apply_200 : decode cX7_apply 200 = .ok (.iconst 3, 1) := by decide +kernel
theorem dX7_apply_201 : decode cX7_apply 201 = .ok (.iaload, 1) := by decide +kernel
theorem dX7_apply_202 : decode cX7_apply 202 = .ok (.invokevirtual 221, 3) := by decide +kernel
theorem dX7_apply_205 : decode cX7_apply 205 = .ok (.pop, 1) := by decide +kernel
theorem dX7_apply_206 : decode cX7_apply 206 = .ok (.goto 54, 3) := by decide +kernel
theorem dX7_apply_209 : decode cX7_apply 209 = .ok (.aload_n 0, 1) := by decide +kernel
theorem dX7_apply_210 : decode cX7_apply 210 = .ok (.getfield 21, 3) := by decide +kernel
theorem dX7_apply_213 : decode cX7_apply 213 = .ok (.getfield 225, 3) := by decide +kernel
theorem dX7_apply_216 : decode cX7_apply 216 = .ok (.iload_n 2, 1) := by decide +kernel
theorem dX7_apply_217 : decode cX7_apply 217 = .ok (.iload_n 3, 1) := by decide +kernel
theorem dX7_apply_218 : decode cX7_apply 218 = .ok (.invokevirtual 229, 3) := by decide +kernel
theorem dX7_apply_221 : decode cX7_apply 221 = .ok (.goto 39, 3) := by decide +kernel
theorem dX7_apply_224 : decode cX7_apply 224 = .ok (.aload_n 0, 1) := by decide +kernel
theorem dX7_apply_225 : decode cX7_apply 225 = .ok (.getfield 21, 3) := by decide +kernel
theorem dX7_apply_228 : decode cX7_apply 228 = .ok (.iload_n 2, 1) := by decide +kernel
theorem dX7_apply_229 : decode cX7_apply 229 = .ok (.aload_n 1, 1) := by decide +kernel
theorem dX7_apply_230 : decode cX7_apply 230 = .ok (.getstatic 235, 3) := by decide +kernel
theorem dX7_apply_233 : decode cX7_apply 233 = .ok (.if_acmp .ne 7, 3) := by decide +kernel
theorem dX7_apply_236 : decode cX7_apply 236 = .ok (.iconst 1, 1) := by decide +kernel
theorem dX7_apply_237 : decode cX7_apply 237 = .ok (.goto 4, 3) := by decide +kernel
theorem dX7_apply_240 : decode cX7_apply 240 = .ok (.iconst 0, 1) := by decide +kernel
theorem dX7_apply_241 : decode cX7_apply 241 = .ok (.invokevirtual 238, 3) := by decide +kernel
theorem dX7_apply_244 : decode cX7_apply 244 = .ok (.pop, 1) := by decide +kernel
theorem dX7_apply_245 : decode cX7_apply 245 = .ok (.goto 15, 3) := by decide +kernel
theorem dX7_apply_248 : decode cX7_apply 248 = .ok (.aload_n 0, 1) := by decide +kernel
theorem dX7_apply_249 : decode cX7_apply 249 = .ok (.getfield 21, 3) := by decide +kernel
theorem dX7_apply_252 : decode cX7_apply 252 = .ok (.iload_n 2, 1) := by decide +kernel
theorem dX7_apply_253 : decode cX7_apply 253 = .ok (.invokevirtual 242, 3) := by decide +kernel
theorem dX7_apply_256 : decode cX7_apply 256 = .ok (.pop, 1) := by decide +kernel
theorem dX7_apply_257 : decode cX7_apply 257 = .ok (.goto 3, 3) := by decide +kernel
theorem dX7_apply_260 : decode cX7_apply 260 = .ok (.return_, 1) := by decide +kernel
theorem dX8_init_0 : decode cX8_init 0 = .ok (.aload_n 0, 1) := by decide +kernel
theorem dX8_init_1 : decode cX8_init 1 = .ok (.invokespecial 1, 3) := by decide +kernel
theorem dX8_init_4 : decode cX8_init 4 = .ok (.aload_n 0, 1) := by decide +kernel
theorem dX8_init_5 : decode cX8_init 5 = .ok (.new 7, 3) := by decide +kernel
theorem dX8_init_8 : decode cX8_init 8 = .ok (.dup, 1) := by decide +kernel
theorem dX8_init_9 : decode cX8_init 9 = .ok (.invokespecial 9, 3) := by decide +kernel
theorem dX8_init_12 : decode cX8_init 12 = .ok (.putfield 10, 3) := by decide +kernel
theorem dX8_init_15 : decode cX8_init 15 = .ok (.aload_n 0, 1) := by decide +kernel
theorem dX8_init_16 : decode cX8_init 16 = .ok (.new 7, 3) := by decide +kernel
theorem dX8_init_19 : decode cX8_init 19 = .ok (.dup, 1) := by decide +kernel
theorem dX8_init_20 : decode cX8_init 20 = .ok (.invokespecial 9, 3) := by decide +kernel
theorem dX8_init_23 : decode cX8_init 23 = .ok (.putfield 16, 3) := by decide +kernel
theorem dX8_init_26 : decode cX8_init 26 = .ok (.aload_n 0, 1) := by decide +kernel
theorem dX8_init_27 : decode cX8_init 27 = .ok (.iconst 0, 1) := by decide +kernel
theorem dX8_init_28 : decode cX8_init 28 = .ok (.putfield 19, 3) := by decide +kernel
theorem dX8_init_31 : decode cX8_init 31 = .ok (.aload_n 0, 1) := by decide +kernel
theorem dX8_init_32 : decode cX8_init 32 = .ok (.new 23, 3) := by decide +kernel
theorem dX8_init_35 : decode cX8_init 35 = .ok (.dup, 1) := by decide +kernel
theorem dX8_init_36 : decode cX8_init 36 = .ok (.invokespecial 25, 3) := by decide +kernel
theorem dX8_init_39 : decode cX8_init 39 = .ok (.putfield 26, 3) := by decide +kernel
theorem dX8_init_42 : decode cX8_init 42 = .ok (.aload_n 0, 1) := by decide +kernel
theorem dX8_init_43 : decode cX8_init 43 = .ok (.new 30, 3) := by decide +kernel
theorem dX8_init_46 : decode cX8_init 46 = .ok (.dup, 1) := by decide +kernel
theorem dX8_init_47 : decode cX8_init 47 = .ok (.invokespecial 32, 3) := by decide +kernel
theorem dX8_init_50 : decode cX8_init 50 = .ok (.putfield 33, 3) := by decide +kernel
theorem dX8_init_53 : decode cX8_init 53 = .ok (.aload_n 0, 1) := by decide +kernel
theorem dX8_init_54 : decode cX8_init 54 = .ok (.new 37, 3) := by decide +kernel
theorem dX8_init_57 : decode cX8_init 57 = .ok (.dup, 1) := by decide +kernel
theorem dX8_init_58 : decode cX8_init 58 = .ok (.invokespecial 39, 3) := by decide +kernel
theorem dX8_init_61 : decode cX8_init 61 = .ok (.putfield 40, 3) := by decide +kernel
theorem dX8_init_64 : decode cX8_init 64 = .ok (.aload_n 0, 1) := by decide +kernel
theorem dX8_init_65 : decode cX8_init 65 = .ok (.getfield 10, 3) := by decide +kernel
theorem dX8_init_68 : decode cX8_init 68 = .ok (.bipush 6, 2) := by decide +kernel
theorem dX8_init_70 : decode cX8_init 70 = .ok (.invokevirtual 44, 3) := by decide +kernel
theorem dX8_init_73 : decode cX8_init 73 = .ok (.pop, 1) := by decide +kernel
theorem dX8_init_74 : decode cX8_init 74 = .ok (.aload_n 0, 1) := by decide +kernel
theorem dX8_init_75 : decode cX8_init 75 = .ok (.getfield 10, 3) := by decide +kernel
theorem dX8_init_78 : decode cX8_init 78 = .ok (.iconst 3, 1) := by decide +kernel
theorem dX8_init_79 : decode cX8_init 79 = .ok (.invokevirtual 44, 3) := by decide +kernel
theorem dX8_init_82 : decode cX8_init 82 = .ok (.pop, 1) := by decide +kernel
theorem dX8_init_83 : decode cX8_init 83 = .ok (.aload_n 0, 1) := by decide +kernel
theorem dX8_init_84 : decode cX8_init 84 = .ok (.getfield 10, 3) := by decide +kernel
theorem dX8_init_87 : decode cX8_init 87 = .ok (.bipush 9, 2) := by decide +kernel
theorem dX8_init_89 : decode cX8_init 89 = .ok (.invokevirtual 44, 3) := by decide +kernel
theorem dX8_init_92 : decode cX8_init 92 = .ok (.pop, 1) := by decide +kernel
theorem dX8_init_93 : decode cX8_init 93 = .ok (.aload_n 0, 1) := by decide +kernel
theorem dX8_init_94 : decode cX8_init 94 = .ok (.getfield 10, 3) := by decide +kernel
theorem dX8_init_97 : decode cX8_init 97 = .ok (.iconst 0, 1) := by decide +kernel
theorem dX8_init_98 : decode cX8_init 98 = .ok (.invokevirtual 44, 3) := by decide +kernel
theorem dX8_init_101 : decode cX8_init 101 = .ok (.pop, 1) := by decide +kernel
theorem dX8_init_102 : decode cX8_init 102 = .ok (.aload_n 0, 1) := by decide +kernel
theorem dX8_init_103 : decode cX8_init 103 = .ok (.getfield 10, 3) := by decide +kernel
theorem dX8_init_106 : decode cX8_init 106 = .ok (.iconst 4, 1) := by decide +kernel
theorem dX8_init_107 : decode cX8_init 107 = .ok (.invokevirtual 44, 3) := by decide +kernel
theorem dX8_init_110 : decode cX8_init 110 = .ok (.pop, 1) := by decide +kernel
theorem dX8_init_111 : decode cX8_init 111 = .ok (.aload_n 0, 1) := by decide +kernel
theorem dX8_init_112 : decode cX8_init 112 = .ok (.getfield 10, 3) := by decide +kernel
theorem dX8_init_115 : decode cX8_init 115 = .ok (.iconst 0, 1) := by decide +kernel
theorem dX8_init_116 : decode cX8_init 116 = .ok (.iconst 1, 1) := by decide +kernel
theorem dX8_init_117 : decode cX8_init 117 = .ok (.iconst 5, 1) := by decide +kernel
theorem dX8_init_118 : decode cX8_init 118 = .ok (.invokevirtual 48, 3) := by decide +kernel
theorem dX8_init_121 : decode cX8_init 121 = .ok (.pop, 1) := by decide +kernel
theorem dX8_init_122 : decode cX8_init 122 = .ok (.aload_n 0, 1) := by decide +kernel
theorem dX8_init_123 : decode cX8_init 123 = .ok (.getfield 10, 3) := by decide +kernel
theorem dX8_init_126 : decode cX8_init 126 = .ok (.iconst 1, 1) := by decide +kernel
theorem dX8_init_127 : decode cX8_init 127 = .ok (.iconst 2, 1) := by decide +kernel
theorem dX8_init_128 : decode cX8_init 128 = .ok (.iconst 3, 1) := by decide +kernel
theorem dX8_init_129 : decode cX8_init 129 = .ok (.invokevirtual 48, 3) := by decide +kernel
theorem dX8_init_132 : decode cX8_init 132 = .ok (.pop, 1) := by decide +kernel
theorem dX8_init_133 : decode cX8_init 133 = .ok (.aload_n 0, 1) := by decide +kernel
theorem dX8_init_134 : decode cX8_init 134 = .ok (.getfield 10, 3) := by decide +kernel
theorem dX8_init_137 : decode cX8_init 137 = .ok (.iconst 2, 1) := by decide +kernel
theorem dX8_init_138 : decode cX8_init 138 = .ok (.iconst 3, 1) := by decide +kernel
theorem dX8_init_139 : decode cX8_init 139 = .ok (.bipush 7, 2) := by decide +kernel
theorem dX8_init_141 : decode cX8_init 141 = .ok (.invokevirtual 48, 3) := by decide +kernel
theorem dX8_init_144 : decode cX8_init 144 = .ok (.pop, 1) := by decide +kernel
theorem dX8_init_145 : decode cX8_init 145 = .ok (.aload_n 0, 1) := by decide +kernel
theorem dX8_init_146 : decode cX8_init 146 = .ok (.getfield 10, 3) := by decide +kernel
theorem dX8_init_149 : decode cX8_init 149 = .ok (.iconst 0, 1) := by decide +kernel
theorem dX8_init_150 : decode cX8_init 150 = .ok (.iconst 3, 1) := by decide +kernel
theorem dX8_init_151 : decode cX8_init 151 = .ok (.iconst 2, 1) := by decide +kernel
theorem dX8_init_152 : decode cX8_init 152 = .ok (.invokevirtual 48, 3) := by decide +kernel
theorem dX8_init_155 : decode cX8_init 155 = .ok (.pop, 1) := by decide +kernel
theorem dX8_init_156 : decode cX8_init 156 = .ok (.aload_n 0, 1) := by decide +kernel
theorem dX8_init_157 : decode cX8_init 157 = .ok (.getfield 10, 3) := by decide +kernel
theorem dX8_init_160 : decode cX8_init 160 = .ok (.iconst 3, 1) := by decide +kernel
theorem dX8_init_161 : decode cX8_init 161 = .ok (.iconst 4, 1) := by decide +kernel
theorem dX8_init_162 : decode cX8_init 162 = .ok (.bipush 9, 2) := by decide +kernel
theorem dX8_init_164 : decode cX8_init 164 = .ok (.invokevirtual 48, 3) := by decide +kernel
theorem dX8_init_167 : decode cX8_init 167 = .ok (.pop, 1) := by decide +kernel
theorem dX8_init_168 : decode cX8_init 168 = .ok (.aload_n 0, 1) := by decide +kernel
theorem dX8_init_169 : decode cX8_init 169 = .ok (.getfield 10, 3) := by decide +kernel
theorem dX8_init_172 : decode cX8_init 172 = .ok (.iconst 0, 1) := by decide +kernel
theorem dX8_init_173 : decode cX8_init 173 = .ok (.iconst 4, 1) := by decide +kernel
theorem dX8_init_174 : decode cX8_init 174 = .ok (.iconst 5, 1) := by decide +kernel
theorem dX8_init_175 : decode cX8_init 175 = .ok (.invokevirtual 52, 3) := by decide +kernel
theorem dX8_init_178 : decode cX8_init 178 = .ok (.pop, 1) := by decide +kernel
theorem dX8_init_179 : decode cX8_init 179 = .ok (.aload_n 0, 1) := by decide +kernel
theorem dX8_init_180 : decode cX8_init 180 = .ok (.getfield 10, 3) := by decide +kernel
theorem dX8_init_183 : decode cX8_init 183 = .ok (.iconst 2, 1) := by decide +kernel
theorem dX8_init_184 : decode cX8_init 184 = .ok (.iconst 3, 1) := by decide +kernel
theorem dX8_init_185 : decode cX8_init 185 = .ok (.bipush 6, 2) := by decide +kernel
theorem dX8_init_187 : decode cX8_init 187 = .ok (.invokevirtual 52, 3) := by decide +kernel
theorem dX8_init_190 : decode cX8_init 190 = .ok (.pop, 1) := by decide +kernel
theorem dX8_init_191 : decode cX8_init 191 = .ok (.aload_n 0, 1) := by decide +kernel
theorem dX8_init_192 : decode cX8_init 192 = .ok (.getfield 10, 3) := by decide +kernel
theorem dX8_init_195 : decode cX8_init 195 = .ok (.iconst 4, 1) := by decide +kernel
theorem dX8_init_196 : decode cX8_init 196 = .ok (.bipush 6, 2) := by decide +kernel
theorem dX8_init_198 : decode cX8_init 198 = .ok (.iconst 3, 1) := by decide +kernel
theorem dX8_init_199 : decode cX8_init 199 = .ok (.invokevirtual 52, 3) := by decide +kernel
theorem dX8_init_202 : decode cX8_init 202 = .ok (.pop, 1) := by decide +kernel
theorem dX8_init_203 : decode cX8_init 203 = .ok (.aload_n 0, 1) := by decide +kernel
theorem dX8_init_204 : decode cX8_init 204 = .ok (.getfield 10, 3) := by decide +kernel
theorem dX8_init_207 : decode cX8_init 207 = .ok (.iconst 0, 1) := by decide +kernel
theorem dX8_init_208 : decode cX8_init 208 = .ok (.invokevirtual 55, 3) := by decide +kernel
theorem dX8_init_211 : decode cX8_init 211 = .ok (.pop, 1) := by decide +kernel
theorem dX8_init_212 : decode cX8_init 212 = .ok (.aload_n 0, 1) := by decide +kernel
theorem dX8_init_213 : decode cX8_init 213 = .ok (.getfield 10, 3) := by decide +kernel
theorem dX8_init_216 : decode cX8_init 216 = .ok (.iconst 1, 1) := by decide +kernel
theorem dX8_init_217 : decode cX8_init 217 = .ok (.invokevirtual 55, 3) := by decide +kernel
theorem dX8_init_220 : decode cX8_init 220 = .ok (.pop, 1) := by decide +kernel
theorem dX8_init_221 : decode cX8_init 221 = .ok (.aload_n 0, 1) := by decide +kernel
theorem dX8_init_222 : decode cX8_init 222 = .ok (.getfield 10, 3) := by decide +kernel
theorem dX8_init_225 : decode cX8_init 225 = .ok (.iconst 2, 1) := by decide +kernel
theorem dX8_init_226 : decode cX8_init 226 = .ok (.iconst 1, 1) := by decide +kernel
theorem dX8_init_227 : decode cX8_init 227 = .ok (.iconst 2, 1) := by decide +kernel
theorem dX8_init_228 : decode cX8_init 228 = .ok (.bipush 6, 2) := by decide +kernel
theorem dX8_init_230 : decode cX8_init 230 = .ok (.invokevirtual 58, 3) := by decide +kernel
theorem dX8_init_233 : decode cX8_init 233 = .ok (.pop, 1) := by decide +kernel
theorem dX8_init_234 : decode cX8_init 234 = .ok (.aload_n 0, 1) := by decide +kernel
theorem dX8_init_235 : decode cX8_init 235 = .ok (.getfield 10, 3) := by decide +kernel
theorem dX8_init_238 : decode cX8_init 238 = .ok (.iconst 3, 1) := by decide +kernel
theorem dX8_init_239 : decode cX8_init 239 = .ok (.invokevirtual 62, 3) := by decide +kernel
theorem dX8_init_242 : decode cX8_init 242 = .ok (.pop, 1) := by decide +kernel
theorem dX8_init_243 : decode cX8_init 243 = .ok (.return_, 1) := by decide +kernel
theorem dX8_append_0 : decode cX8_append 0 = .ok (.aload_n 0, 1) := by decide +kernel
theorem dX8_append_1 : decode cX8_append 1 = .ok (.getfield 33, 3) := by decide +kernel
theorem dX8_append_4 : decode cX8_append 4 = .ok (.getfield 65, 3) := by decide +kernel
theorem dX8_append_7 : decode cX8_append 7 = .ok (.astore 6, 2) := by decide +kernel
theorem dX8_append_9 : decode cX8_append 9 = .ok (.aload 6, 2) := by decide +kernel
theorem dX8_append_11 : decode cX8_append 11 = .ok (.getfield 69, 3) := by decide +kernel
theorem dX8_append_14 : decode cX8_append 14 = .ok (.sipush 580, 3) := by decide +kernel
theorem dX8_append_17 : decode cX8_append 17 = .ok (.if_icmp .le 5, 3) := by decide +kernel
theorem dX8_append_20 : decode cX8_append 20 = .ok (.iconst (-1), 1) := by decide +kernel
theorem dX8_append_21 : decode cX8_append 21 = .ok (.ireturn, 1) := by decide +kernel
theorem dX8_append_22 : decode cX8_append 22 = .ok (.aload 6, 2) := by decide +kernel
theorem dX8_append_24 : decode cX8_append 24 = .ok (.iload_n 1, 1) := by decide +kernel
theorem dX8_append_25 : decode cX8_append 25 = .ok (.invokevirtual 75, 3) := by decide +kernel
theorem dX8_append_28 : decode cX8_append 28 = .ok (.aload 6, 2) := by decide +kernel
theorem dX8_append_30 : decode cX8_append 30 = .ok (.iload_n 2, 1) := by decide +kernel
theorem dX8_append_31 : decode cX8_append 31 = .ok (.invokevirtual 75, 3) := by decide +kernel
theorem dX8_append_34 : decode cX8_append 34 = .ok (.aload 6, 2) := by decide +kernel
theorem dX8_append_36 : decode cX8_append 36 = .ok (.iload_n 3, 1) := by decide +kernel
theorem dX8_append_37 : decode cX8_append 37 = .ok (.invokevirtual 75, 3) := by decide +kernel
theorem dX8_append_40 : decode cX8_append 40 = .ok (.aload 6, 2) := by decide +kernel
theorem dX8_append_42 : decode cX8_append 42 = .ok (.iload 4, 2) := by decide +kernel
theorem dX8_append_44 : decode cX8_append 44 = .ok (.invokevirtual 75, 3) := by decide +kernel
theorem dX8_append_47 : decode cX8_append 47 = .ok (.aload 6, 2) := by decide +kernel
theorem dX8_append_49 : decode cX8_append 49 = .ok (.iload 5, 2) := by decide +kernel
theorem dX8_append_51 : decode cX8_append 51 = .ok (.invokevirtual 75, 3) := by decide +kernel
theorem dX8_append_54 : decode cX8_append 54 = .ok (.aload 6, 2) := by decide +kernel
theorem dX8_append_56 : decode cX8_append 56 = .ok (.getfield 69, 3) := by decide +kernel
theorem dX8_append_59 : decode cX8_append 59 = .ok (.ireturn, 1) := by decide +kernel
theorem dX8_truncateInput_0 : decode cX8_truncateInput 0 = .ok (.iload_n 1, 1) := by decide +kernel
theorem dX8_truncateInput_1 : decode cX8_truncateInput 1 = .ok (.ifCond .lt 17, 3) := by decide +kernel
theorem dX8_truncateInput_4 : decode cX8_truncateInput 4 = .ok (.iload_n 1, 1) := by decide +kernel
theorem dX8_truncateInput_5 : decode cX8_truncateInput 5 = .ok (.aload_n 0, 1) := by decide +kernel
theorem dX8_truncateInput_6 : decode cX8_truncateInput 6 = .ok (.getfield 33, 3) := by decide +kernel
theorem dX8_truncateInput_9 : decode cX8_truncateInput 9 = .ok (.getfield 65, 3) := by decide +kernel
theorem dX8_truncateInput_12 : decode cX8_truncateInput 12 = .ok (.getfield 69, 3) := by decide +kernel
theorem dX8_truncateInput_15 : decode cX8_truncateInput 15 = .ok (.if_icmp .le 13, 3) := by decide +kernel
theorem dX8_truncateInput_18 : decode cX8_truncateInput 18 = .ok (.new 79, 3) := by decide +kernel
theorem dX8_truncateInput_21 : decode cX8_truncateInput 21 = .ok (.dup, 1) := by decide +kernel
theorem dX8_truncateInput_22 : decode cX8_truncateInput 22 = .ok (.ldc 81, 2) := by decide +kernel
theorem dX8_truncateInput_24 : decode cX8_truncateInput 24 = .ok (.invokespecial 83, 3) := by decide +kernel
theorem dX8_truncateInput_27 : decode cX8_truncateInput 27 = .ok (.athrow, 1) := by decide +kernel
theorem dX8_truncateInput_28 : decode cX8_truncateInput 28 = .ok (.aload_n 0, 1) := by decide +kernel
theorem dX8_truncateInput_29 : decode cX8_truncateInput 29 = .ok (.getfield 33, 3) := by decide +kernel
theorem dX8_truncateInput_32 : decode cX8_truncateInput 32 = .ok (.getfield 65, 3) := by decide +kernel
theorem dX8_truncateInput_35 : decode cX8_truncateInput 35 = .ok (.iload_n 1, 1) := by decide +kernel
theorem dX8_truncateInput_36 : decode cX8_truncateInput 36 = .ok (.putfield 69, 3) := by decide +kernel
theorem dX8_truncateInput_39 : decode cX8_truncateInput 39 = .ok (.iload_n 1, 1) := by decide +kernel
theorem dX8_truncateInput_40 : decode cX8_truncateInput 40 = .ok (.ireturn, 1) := by decide +kernel
theorem dX8_runScript_0 : decode cX8_runScript 0 = .ok (.aload_n 0, 1) := by decide +kernel
theorem dX8_runScript_1 : decode cX8_runScript 1 = .ok (.getfield 33, 3) := by decide +kernel
theorem dX8_runScript_4 : decode cX8_runScript 4 = .ok (.invokevirtual 86, 3) := by decide +kernel
theorem dX8_runScript_7 : decode cX8_runScript 7 = .ok (.aload_n 0, 1) := by decide +kernel
theorem dX8_runScript_8 : decode cX8_runScript 8 = .ok (.getfield 33, 3) := by decide +kernel
theorem dX8_runScript_11 : decode cX8_runScript 11 = .ok (.getfield 65, 3) := by decide +kernel
theorem dX8_runScript_14 : decode cX8_runScript 14 = .ok (.iconst 0, 1) := by decide +kernel
theorem dX8_runScript_15 : decode cX8_runScript 15 = .ok (.putfield 69, 3) := by decide +kernel
theorem dX8_runScript_18 : decode cX8_runScript 18 = .ok (.aload_n 0, 1) := by decide +kernel
theorem dX8_runScript_19 : decode cX8_runScript 19 = .ok (.getfield 33, 3) := by decide +kernel
theorem dX8_runScript_22 : decode cX8_runScript 22 = .ok (.getfield 89, 3) := by decide +kernel
theorem dX8_runScript_25 : decode cX8_runScript 25 = .ok (.ifCond .eq 5, 3) := by decide +kernel
theorem dX8_runScript_28 : decode cX8_runScript 28 = .ok (.iconst (-1), 1) := by decide +kernel
theorem dX8_runScript_29 : decode cX8_runScript 29 = .ok (.ireturn, 1) := by decide +kernel
theorem dX8_runScript_30 : decode cX8_runScript 30 = .ok (.aload_n 0, 1) := by decide +kernel
theorem dX8_runScript_31 : decode cX8_runScript 31 = .ok (.getfield 26, 3) := by decide +kernel
theorem dX8_runScript_34 : decode cX8_runScript 34 = .ok (.aload_n 0, 1) := by decide +kernel
theorem dX8_runScript_35 : decode cX8_runScript 35 = .ok (.getfield 10, 3) := by decide +kernel
theorem dX8_runScript_38 : decode cX8_runScript 38 = .ok (.invokevirtual 92, 3) := by decide +kernel
theorem dX8_runScript_41 : decode cX8_runScript 41 = .ok (.aload_n 0, 1) := by decide +kernel
theorem dX8_runScript_42 : decode cX8_runScript 42 = .ok (.getfield 10, 3) := by decide +kernel
theorem dX8_runScript_45 : decode cX8_runScript 45 = .ok (.aload_n 0, 1) := by decide +kernel
theorem dX8_runScript_46 : decode cX8_runScript 46 = .ok (.getfield 33, 3) := by decide +kernel
theorem dX8_runScript_49 : decode cX8_runScript 49 = .ok (.getfield 96, 3) := by decide +kernel
theorem dX8_runScript_52 : decode cX8_runScript 52 = .ok (.invokevirtual 97, 3) := by decide +kernel
theorem dX8_runScript_55 : decode cX8_runScript 55 = .ok (.aload_n 0, 1) := by decide +kernel
theorem dX8_runScript_56 : decode cX8_runScript 56 = .ok (.getfield 10, 3) := by decide +kernel
theorem dX8_runScript_59 : decode cX8_runScript 59 = .ok (.getfield 100, 3) := by decide +kernel
theorem dX8_runScript_62 : decode cX8_runScript 62 = .ok (.ireturn, 1) := by decide +kernel
theorem dX8_addChimney_0 : decode cX8_addChimney 0 = .ok (.aload_n 0, 1) := by decide +kernel
theorem dX8_addChimney_1 : decode cX8_addChimney 1 = .ok (.iload_n 1, 1) := by decide +kernel
theorem dX8_addChimney_2 : decode cX8_addChimney 2 = .ok (.iconst 0, 1) := by decide +kernel
theorem dX8_addChimney_3 : decode cX8_addChimney 3 = .ok (.bipush 9, 2) := by decide +kernel
theorem dX8_addChimney_5 : decode cX8_addChimney 5 = .ok (.invokevirtual 103, 3) := by decide +kernel
theorem dX8_addChimney_8 : decode cX8_addChimney 8 = .ok (.aload_n 0, 1) := by decide +kernel
theorem dX8_addChimney_9 : decode cX8_addChimney 9 = .ok (.aload_n 0, 1) := by decide +kernel
theorem dX8_addChimney_10 : decode cX8_addChimney 10 = .ok (.getfield 10, 3) := by decide +kernel
theorem dX8_addChimney_13 : decode cX8_addChimney 13 = .ok (.getfield 107, 3) := by decide +kernel
theorem dX8_addChimney_16 : decode cX8_addChimney 16 = .ok (.bipush 10, 2) := by decide +kernel
theorem dX8_addChimney_18 : decode cX8_addChimney 18 = .ok (.if_icmp .lt 7, 3) := by decide +kernel
theorem dX8_addChimney_21 : decode cX8_addChimney 21 = .ok (.iconst 1, 1) := by decide +kernel
theorem dX8_addChimney_22 : decode cX8_addChimney 22 = .ok (.goto 4, 3) := by decide +kernel
theorem dX8_addChimney_25 : decode cX8_addChimney 25 = .ok (.iconst 0, 1) := by decide +kernel
theorem dX8_addChimney_26 : decode cX8_addChimney 26 = .ok (.invokevirtual 110, 3) := by decide +kernel
theorem dX8_addChimney_29 : decode cX8_addChimney 29 = .ok (.aload_n 0, 1) := by decide +kernel
theorem dX8_addChimney_30 : decode cX8_addChimney 30 = .ok (.getfield 26, 3) := by decide +kernel
theorem dX8_addChimney_33 : decode cX8_addChimney 33 = .ok (.aload_n 0, 1) := by decide +kernel
theorem dX8_addChimney_34 : decode cX8_addChimney 34 = .ok (.getfield 10, 3) := by decide +kernel
theorem dX8_addChimney_37 : decode cX8_addChimney 37 = .ok (.invokevirtual 92, 3) := by decide +kernel
theorem dX8_addChimney_40 : decode cX8_addChimney 40 = .ok (.aload_n 0, 1) := by decide +kernel
theorem dX8_addChimney_41 : decode cX8_addChimney 41 = .ok (.getfield 10, 3) := by decide +kernel
theorem dX8_addChimney_44 : decode cX8_addChimney 44 = .ok (.iload_n 1, 1) := by decide +kernel
theorem dX8_addChimney_45 : decode cX8_addChimney 45 = .ok (.invokevirtual 44, 3) := by decide +kernel
theorem dX8_addChimney_48 : decode cX8_addChimney 48 = .ok (.ireturn, 1) := by decide +kernel
theorem dX8_addGutter_0 : decode cX8_addGutter 0 = .ok (.aload_n 0, 1) := by decide +kernel
theorem dX8_addGutter_1 : decode cX8_addGutter 1 = .ok (.iload_n 1, 1) := by decide +kernel
theorem dX8_addGutter_2 : decode cX8_addGutter 2 = .ok (.invokevirtual 114, 3) := by decide +kernel
theorem dX8_addGutter_5 : decode cX8_addGutter 5 = .ok (.aload_n 0, 1) := by decide +kernel
theorem dX8_addGutter_6 : decode cX8_addGutter 6 = .ok (.iload_n 2, 1) := by decide +kernel
theorem dX8_addGutter_7 : decode cX8_addGutter 7 = .ok (.invokevirtual 114, 3) := by decide +kernel
theorem dX8_addGutter_10 : decode cX8_addGutter 10 = .ok (.aload_n 0, 1) := by decide +kernel
theorem dX8_addGutter_11 : decode cX8_addGutter 11 = .ok (.iload_n 1, 1) := by decide +kernel
theorem dX8_addGutter_12 : decode cX8_addGutter 12 = .ok (.iload_n 2, 1) := by decide +kernel
theorem dX8_addGutter_13 : decode cX8_addGutter 13 = .ok (.invokevirtual 117, 3) := by decide +kernel
theorem dX8_addGutter_16 : decode cX8_addGutter 16 = .ok (.aload_n 0, 1) := by decide +kernel
theorem dX8_addGutter_17 : decode cX8_addGutter 17 = .ok (.iload_n 3, 1) := by decide +kernel
theorem dX8_addGutter_18 : decode cX8_addGutter 18 = .ok (.iconst 1, 1) := by decide +kernel
theorem dX8_addGutter_19 : decode cX8_addGutter 19 = .ok (.bipush 9, 2) := by decide +kernel
theorem dX8_addGutter_21 : decode cX8_addGutter 21 = .ok (.invokevirtual 103, 3) := by decide +kernel
theorem dX8_addGutter_24 : decode cX8_addGutter 24 = .ok (.aload_n 0, 1) := by decide +kernel
theorem dX8_addGutter_25 : decode cX8_addGutter 25 = .ok (.aload_n 0, 1) := by decide +kernel
theorem dX8_addGutter_26 : decode cX8_addGutter 26 = .ok (.getfield 10, 3) := by decide +kernel
theorem dX8_addGutter_29 : decode cX8_addGutter 29 = .ok (.getfield 121, 3) := by decide +kernel
theorem dX8_addGutter_32 : decode cX8_addGutter 32 = .ok (.bipush 20, 2) := by decide +kernel
theorem dX8_addGutter_34 : decode cX8_addGutter 34 = .ok (.if_icmp .lt 7, 3) := by decide +kernel
theorem dX8_addGutter_37 : decode cX8_addGutter 37 = .ok (.iconst 1, 1) := by decide +kernel
theorem dX8_addGutter_38 : decode cX8_addGutter 38 = .ok (.goto 4, 3) := by decide +kernel
theorem dX8_addGutter_41 : decode cX8_addGutter 41 = .ok (.iconst 0, 1) := by decide +kernel
theorem dX8_addGutter_42 : decode cX8_addGutter 42 = .ok (.invokevirtual 110, 3) := by decide +kernel
theorem dX8_addGutter_45 : decode cX8_addGutter 45 = .ok (.aload_n 0, 1) := by decide +kernel
theorem dX8_addGutter_46 : decode cX8_addGutter 46 = .ok (.getfield 26, 3) := by decide +kernel
theorem dX8_addGutter_49 : decode cX8_addGutter 49 = .ok (.aload_n 0, 1) := by decide +kernel
theorem dX8_addGutter_50 : decode cX8_addGutter 50 = .ok (.getfield 10, 3) := by decide +kernel
theorem dX8_addGutter_53 : decode cX8_addGutter 53 = .ok (.invokevirtual 92, 3) := by decide +kernel
theorem dX8_addGutter_56 : decode cX8_addGutter 56 = .ok (.aload_n 0, 1) := by decide +kernel
theorem dX8_addGutter_57 : decode cX8_addGutter 57 = .ok (.getfield 10, 3) := by decide +kernel
theorem dX8_addGutter_60 : decode cX8_addGutter 60 = .ok (.iload_n 1, 1) := by decide +kernel
theorem dX8_addGutter_61 : decode cX8_addGutter 61 = .ok (.iload_n 2, 1) := by decide +kernel
theorem dX8_addGutter_62 : decode cX8_addGutter 62 = .ok (.iload_n 3, 1) := by decide +kernel
theorem dX8_addGutter_63 : decode cX8_addGutter 63 = .ok (.invokevirtual 48, 3) := by decide +kernel
theorem dX8_addGutter_66 : decode cX8_addGutter 66 = .ok (.ireturn, 1) := by decide +kernel
theorem dX8_addCat_0 : decode cX8_addCat 0 = .ok (.aload_n 0, 1) := by decide +kernel
theorem dX8_addCat_1 : decode cX8_addCat 1 = .ok (.iload_n 1, 1) := by decide +kernel
theorem dX8_addCat_2 : decode cX8_addCat 2 = .ok (.invokevirtual 114, 3) := by decide +kernel
theorem dX8_addCat_5 : decode cX8_addCat 5 = .ok (.aload_n 0, 1) := by decide +kernel
theorem dX8_addCat_6 : decode cX8_addCat 6 = .ok (.iload_n 2, 1) := by decide +kernel
theorem dX8_addCat_7 : decode cX8_addCat 7 = .ok (.iconst 1, 1) := by decide +kernel
theorem dX8_addCat_8 : decode cX8_addCat 8 = .ok (.bipush 9, 2) := by decide +kernel
theorem dX8_addCat_10 : decode cX8_addCat 10 = .ok (.invokevirtual 103, 3) := by decide +kernel
theorem dX8_addCat_13 : decode cX8_addCat 13 = .ok (.aload_n 0, 1) := by decide +kernel
theorem dX8_addCat_14 : decode cX8_addCat 14 = .ok (.iload_n 3, 1) := by decide +kernel
theorem dX8_addCat_15 : decode cX8_addCat 15 = .ok (.iconst 1, 1) := by decide +kernel
theorem dX8_addCat_16 : decode cX8_addCat 16 = .ok (.bipush 9, 2) := by decide +kernel
theorem dX8_addCat_18 : decode cX8_addCat 18 = .ok (.invokevirtual 103, 3) := by decide +kernel
theorem dX8_addCat_21 : decode cX8_addCat 21 = .ok (.aload_n 0, 1) := by decide +kernel
theorem dX8_addCat_22 : decode cX8_addCat 22 = .ok (.aload_n 0, 1) := by decide +kernel
theorem dX8_addCat_23 : decode cX8_addCat 23 = .ok (.getfield 10, 3) := by decide +kernel
theorem dX8_addCat_26 : decode cX8_addCat 26 = .ok (.iload_n 1, 1) := by decide +kernel
theorem dX8_addCat_27 : decode cX8_addCat 27 = .ok (.invokevirtual 124, 3) := by decide +kernel
theorem dX8_addCat_30 : decode cX8_addCat 30 = .ok (.invokevirtual 110, 3) := by decide +kernel
theorem dX8_addCat_33 : decode cX8_addCat 33 = .ok (.aload_n 0, 1) := by decide +kernel
theorem dX8_addCat_34 : decode cX8_addCat 34 = .ok (.getfield 26, 3) := by decide +kernel
theorem dX8_addCat_37 : decode cX8_addCat 37 = .ok (.aload_n 0, 1) := by decide +kernel
theorem dX8_addCat_38 : decode cX8_addCat 38 = .ok (.getfield 10, 3) := by decide +kernel
theorem dX8_addCat_41 : decode cX8_addCat 41 = .ok (.invokevirtual 92, 3) := by decide +kernel
theorem dX8_addCat_44 : decode cX8_addCat 44 = .ok (.aload_n 0, 1) := by decide +kernel
theorem dX8_addCat_45 : decode cX8_addCat 45 = .ok (.getfield 10, 3) := by decide +kernel
theorem dX8_addCat_48 : decode cX8_addCat 48 = .ok (.iload_n 1, 1) := by decide +kernel
theorem dX8_addCat_49 : decode cX8_addCat 49 = .ok (.iload_n 2, 1) := by decide +kernel
theorem dX8_addCat_50 : decode cX8_addCat 50 = .ok (.iload_n 3, 1) := by decide +kernel
theorem dX8_addCat_51 : decode cX8_addCat 51 = .ok (.invokevirtual 52, 3) := by decide +kernel
theorem dX8_addCat_54 : decode cX8_addCat 54 = .ok (.ireturn, 1) := by decide +kernel
theorem dX8_step_0 : decode cX8_step 0 = .ok (.aload_n 0, 1) := by decide +kernel
theorem dX8_step_1 : decode cX8_step 1 = .ok (.iload_n 1, 1) := by decide +kernel
theorem dX8_step_2 : decode cX8_step 2 = .ok (.invokevirtual 128, 3) := by decide +kernel
theorem dX8_step_5 : decode cX8_step 5 = .ok (.aload_n 0, 1) := by decide +kernel
theorem dX8_step_6 : decode cX8_step 6 = .ok (.iload_n 2, 1) := by decide +kernel
theorem dX8_step_7 : decode cX8_step 7 = .ok (.invokevirtual 131, 3) := by decide +kernel
theorem dX8_step_10 : decode cX8_step 10 = .ok (.aload_n 0, 1) := by decide +kernel
theorem dX8_step_11 : decode cX8_step 11 = .ok (.aload_n 0, 1) := by decide +kernel
theorem dX8_step_12 : decode cX8_step 12 = .ok (.getfield 10, 3) := by decide +kernel
theorem dX8_step_15 : decode cX8_step 15 = .ok (.iload_n 1, 1) := by decide +kernel
theorem dX8_step_16 : decode cX8_step 16 = .ok (.iload_n 2, 1) := by decide +kernel
theorem dX8_step_17 : decode cX8_step 17 = .ok (.invokevirtual 134, 3) := by decide +kernel
theorem dX8_step_20 : decode cX8_step 20 = .ok (.ifCond .eq 7, 3) := by decide +kernel
theorem dX8_step_23 : decode cX8_step 23 = .ok (.iconst 1, 1) := by decide +kernel
theorem dX8_step_24 : decode cX8_step 24 = .ok (.goto 4, 3) := by decide +kernel
theorem dX8_step_27 : decode cX8_step 27 = .ok (.iconst 0, 1) := by decide +kernel
theorem dX8_step_28 : decode cX8_step 28 = .ok (.invokevirtual 110, 3) := by decide +kernel
theorem dX8_step_31 : decode cX8_step 31 = .ok (.aload_n 0, 1) := by decide +kernel
theorem dX8_step_32 : decode cX8_step 32 = .ok (.getfield 26, 3) := by decide +kernel
theorem dX8_step_35 : decode cX8_step 35 = .ok (.aload_n 0, 1) := by decide +kernel
theorem dX8_step_36 : decode cX8_step 36 = .ok (.getfield 10, 3) := by decide +kernel
theorem dX8_step_39 : decode cX8_step 39 = .ok (.invokevirtual 92, 3) := by decide +kernel
theorem dX8_step_42 : decode cX8_step 42 = .ok (.aload_n 0, 1) := by decide +kernel
theorem dX8_step_43 : decode cX8_step 43 = .ok (.getfield 10, 3) := by decide +kernel
theorem dX8_step_46 : decode cX8_step 46 = .ok (.iload_n 1, 1) := by decide +kernel
theorem dX8_step_47 : decode cX8_step 47 = .ok (.iload_n 2, 1) := by decide +kernel
theorem dX8_step_48 : decode cX8_step 48 = .ok (.invokevirtual 138, 3) := by decide +kernel
theorem dX8_step_51 : decode cX8_step 51 = .ok (.ireturn, 1) := by decide +kernel
theorem dX8_claim_0 : decode cX8_claim 0 = .ok (.aload_n 0, 1) := by decide +kernel
theorem dX8_claim_1 : decode cX8_claim 1 = .ok (.iload_n 1, 1) := by decide +kernel
theorem dX8_claim_2 : decode cX8_claim 2 = .ok (.invokevirtual 128, 3) := by decide +kernel
theorem dX8_claim_5 : decode cX8_claim 5 = .ok (.aload_n 0, 1) := by decide +kernel
theorem dX8_claim_6 : decode cX8_claim 6 = .ok (.aload_n 0, 1) := by decide +kernel
theorem dX8_claim_7 : decode cX8_claim 7 = .ok (.getfield 10, 3) := by decide +kernel
theorem dX8_claim_10 : decode cX8_claim 10 = .ok (.iload_n 1, 1) := by decide +kernel
theorem dX8_claim_11 : decode cX8_claim 11 = .ok (.invokevirtual 141, 3) := by decide +kernel
theorem dX8_claim_14 : decode cX8_claim 14 = .ok (.ifCond .eq 7, 3) := by decide +kernel
theorem dX8_claim_17 : decode cX8_claim 17 = .ok (.iconst 1, 1) := by decide +kernel
theorem dX8_claim_18 : decode cX8_claim 18 = .ok (.goto 4, 3) := by decide +kernel
theorem dX8_claim_21 : decode cX8_claim 21 = .ok (.iconst 0, 1) := by decide +kernel
theorem dX8_claim_22 : decode cX8_claim 22 = .ok (.invokevirtual 110, 3) := by decide +kernel
theorem dX8_claim_25 : decode cX8_claim 25 = .ok (.aload_n 0, 1) := by decide +kernel
theorem dX8_claim_26 : decode cX8_claim 26 = .ok (.getfield 26, 3) := by decide +kernel
theorem dX8_claim_29 : decode cX8_claim 29 = .ok (.aload_n 0, 1) := by decide +kernel
theorem dX8_claim_30 : decode cX8_claim 30 = .ok (.getfield 10, 3) := by decide +kernel
theorem dX8_claim_33 : decode cX8_claim 33 = .ok (.invokevirtual 92, 3) := by decide +kernel
theorem dX8_claim_36 : decode cX8_claim 36 = .ok (.aload_n 0, 1) := by decide +kernel
theorem dX8_claim_37 : decode cX8_claim 37 = .ok (.getfield 10, 3) := by decide +kernel
theorem dX8_claim_40 : decode cX8_claim 40 = .ok (.iload_n 1, 1) := by decide +kernel
theorem dX8_claim_41 : decode cX8_claim 41 = .ok (.invokevirtual 55, 3) := by decide +kernel
theorem dX8_claim_44 : decode cX8_claim 44 = .ok (.ireturn, 1) := by decide +kernel
theorem dX8_abandon_0 : decode cX8_abandon 0 = .ok (.aload_n 0, 1) := by decide +kernel
theorem dX8_abandon_1 : decode cX8_abandon 1 = .ok (.iload_n 1, 1) := by decide +kernel
theorem dX8_abandon_2 : decode cX8_abandon 2 = .ok (.invokevirtual 114, 3) := by decide +kernel
theorem dX8_abandon_5 : decode cX8_abandon 5 = .ok (.aload_n 0, 1) := by decide +kernel
theorem dX8_abandon_6 : decode cX8_abandon 6 = .ok (.aload_n 0, 1) := by decide +kernel
theorem dX8_abandon_7 : decode cX8_abandon 7 = .ok (.getfield 10, 3) := by decide +kernel
theorem dX8_abandon_10 : decode cX8_abandon 10 = .ok (.getfield 144, 3) := by decide +kernel
theorem dX8_abandon_13 : decode cX8_abandon 13 = .ok (.iload_n 1, 1) := by decide +kernel
theorem dX8_abandon_14 : decode cX8_abandon 14 = .ok (.iaload, 1) := by decide +kernel
theorem dX8_abandon_15 : decode cX8_abandon 15 = .ok (.iconst (-1), 1) := by decide +kernel
theorem dX8_abandon_16 : decode cX8_abandon 16 = .ok (.if_icmp .ne 7, 3) := by decide +kernel
theorem dX8_abandon_19 : decode cX8_abandon 19 = .ok (.iconst 1, 1) := by decide +kernel
theorem dX8_abandon_20 : decode cX8_abandon 20 = .ok (.goto 4, 3) := by decide +kernel
theorem dX8_abandon_23 : decode cX8_abandon 23 = .ok (.iconst 0, 1) := by decide +kernel
theorem dX8_abandon_24 : decode cX8_abandon 24 = .ok (.invokevirtual 110, 3) := by decide +kernel
theorem dX8_abandon_27 : decode cX8_abandon 27 = .ok (.aload_n 0, 1) := by decide +kernel
theorem dX8_abandon_28 : decode cX8_abandon 28 = .ok (.getfield 26, 3) := by decide +kernel
theorem dX8_abandon_31 : decode cX8_abandon 31 = .ok (.aload_n 0, 1) := by decide +kernel
theorem dX8_abandon_32 : decode cX8_abandon 32 = .ok (.getfield 10, 3) := by decide +kernel
theorem dX8_abandon_35 : decode cX8_abandon 35 = .ok (.invokevirtual 92, 3) := by decide +kernel
theorem dX8_abandon_38 : decode cX8_abandon 38 = .ok (.aload_n 0, 1) := by decide +kernel
theorem dX8_abandon_39 : decode cX8_abandon 39 = .ok (.getfield 10, 3) := by decide +kernel
theorem dX8_abandon_42 : decode cX8_abandon 42 = .ok (.iload_n 1, 1) := by decide +kernel
theorem dX8_abandon_43 : decode cX8_abandon 43 = .ok (.invokevirtual 148, 3) := by decide +kernel
theorem dX8_abandon_46 : decode cX8_abandon 46 = .ok (.ireturn, 1) := by decide +kernel
theorem dX8_chase_0 : decode cX8_chase 0 = .ok (.aload_n 0, 1) := by decide +kernel
theorem dX8_chase_1 : decode cX8_chase 1 = .ok (.iload_n 1, 1) := by decide +kernel
theorem dX8_chase_2 : decode cX8_chase 2 = .ok (.invokevirtual 128, 3) := by decide +kernel
theorem dX8_chase_5 : decode cX8_chase 5 = .ok (.aload_n 0, 1) := by decide +kernel
theorem dX8_chase_6 : decode cX8_chase 6 = .ok (.iload_n 2, 1) := by decide +kernel
theorem dX8_chase_7 : decode cX8_chase 7 = .ok (.invokevirtual 128, 3) := by decide +kernel
theorem dX8_chase_10 : decode cX8_chase 10 = .ok (.aload_n 0, 1) := by decide +kernel
theorem dX8_chase_11 : decode cX8_chase 11 = .ok (.iload_n 1, 1) := by decide +kernel
theorem dX8_chase_12 : decode cX8_chase 12 = .ok (.iload_n 2, 1) := by decide +kernel
theorem dX8_chase_13 : decode cX8_chase 13 = .ok (.invokevirtual 117, 3) := by decide +kernel
theorem dX8_chase_16 : decode cX8_chase 16 = .ok (.aload_n 0, 1) := by decide +kernel
theorem dX8_chase_17 : decode cX8_chase 17 = .ok (.aload_n 0, 1) := by decide +kernel
theorem dX8_chase_18 : decode cX8_chase 18 = .ok (.getfield 10, 3) := by decide +kernel
theorem dX8_chase_21 : decode cX8_chase 21 = .ok (.iload_n 1, 1) := by decide +kernel
theorem dX8_chase_22 : decode cX8_chase 22 = .ok (.iload_n 2, 1) := by decide +kernel
theorem dX8_chase_23 : decode cX8_chase 23 = .ok (.invokevirtual 151, 3) := by decide +kernel
theorem dX8_chase_26 : decode cX8_chase 26 = .ok (.ifCond .eq 7, 3) := by decide +kernel
theorem dX8_chase_29 : decode cX8_chase 29 = .ok (.iconst 1, 1) := by decide +kernel
theorem dX8_chase_30 : decode cX8_chase 30 = .ok (.goto 4, 3) := by decide +kernel
theorem dX8_chase_33 : decode cX8_chase 33 = .ok (.iconst 0, 1) := by decide +kernel
theorem dX8_chase_34 : decode cX8_chase 34 = .ok (.invokevirtual 110, 3) := by decide +kernel
theorem dX8_chase_37 : decode cX8_chase 37 = .ok (.aload_n 0, 1) := by decide +kernel
theorem dX8_chase_38 : decode cX8_chase 38 = .ok (.getfield 26, 3) := by decide +kernel
theorem dX8_chase_41 : decode cX8_chase 41 = .ok (.aload_n 0, 1) := by decide +kernel
theorem dX8_chase_42 : decode cX8_chase 42 = .ok (.getfield 10, 3) := by decide +kernel
theorem dX8_chase_45 : decode cX8_chase 45 = .ok (.invokevirtual 92, 3) := by decide +kernel
theorem dX8_chase_48 : decode cX8_chase 48 = .ok (.aload_n 0, 1) := by decide +kernel
theorem dX8_chase_49 : decode cX8_chase 49 = .ok (.getfield 10, 3) := by decide +kernel
theorem dX8_chase_52 : decode cX8_chase 52 = .ok (.iload_n 1, 1) := by decide +kernel
theorem dX8_chase_53 : decode cX8_chase 53 = .ok (.iload_n 2, 1) := by decide +kernel
theorem dX8_chase_54 : decode cX8_chase 54 = .ok (.invokevirtual 154, 3) := by decide +kernel
theorem dX8_chase_57 : decode cX8_chase 57 = .ok (.ireturn, 1) := by decide +kernel
theorem dX8_buyTruce_0 : decode cX8_buyTruce 0 = .ok (.aload_n 0, 1) := by decide +kernel
theorem dX8_buyTruce_1 : decode cX8_buyTruce 1 = .ok (.iload_n 1, 1) := by decide +kernel
theorem dX8_buyTruce_2 : decode cX8_buyTruce 2 = .ok (.invokevirtual 128, 3) := by decide +kernel
theorem dX8_buyTruce_5 : decode cX8_buyTruce 5 = .ok (.aload_n 0, 1) := by decide +kernel
theorem dX8_buyTruce_6 : decode cX8_buyTruce 6 = .ok (.iload_n 2, 1) := by decide +kernel
theorem dX8_buyTruce_7 : decode cX8_buyTruce 7 = .ok (.invokevirtual 128, 3) := by decide +kernel
theorem dX8_buyTruce_10 : decode cX8_buyTruce 10 = .ok (.aload_n 0, 1) := by decide +kernel
theorem dX8_buyTruce_11 : decode cX8_buyTruce 11 = .ok (.iload_n 1, 1) := by decide +kernel
theorem dX8_buyTruce_12 : decode cX8_buyTruce 12 = .ok (.iload_n 2, 1) := by decide +kernel
theorem dX8_buyTruce_13 : decode cX8_buyTruce 13 = .ok (.invokevirtual 117, 3) := by decide +kernel
theorem dX8_buyTruce_16 : decode cX8_buyTruce 16 = .ok (.aload_n 0, 1) := by decide +kernel
theorem dX8_buyTruce_17 : decode cX8_buyTruce 17 = .ok (.iload_n 3, 1) := by decide +kernel
theorem dX8_buyTruce_18 : decode cX8_buyTruce 18 = .ok (.iconst 1, 1) := by decide +kernel
theorem dX8_buyTruce_19 : decode cX8_buyTruce 19 = .ok (.bipush 9, 2) := by decide +kernel
theorem dX8_buyTruce_21 : decode cX8_buyTruce 21 = .ok (.invokevirtual 103, 3) := by decide +kernel
theorem dX8_buyTruce_24 : decode cX8_buyTruce 24 = .ok (.aload_n 0, 1) := by decide +kernel
theorem dX8_buyTruce_25 : decode cX8_buyTruce 25 = .ok (.iload 4, 2) := by decide +kernel
theorem dX8_buyTruce_27 : decode cX8_buyTruce 27 = .ok (.iconst 1, 1) := by decide +kernel
theorem dX8_buyTruce_28 : decode cX8_buyTruce 28 = .ok (.bipush 20, 2) := by decide +kernel
theorem dX8_buyTruce_30 : decode cX8_buyTruce 30 = .ok (.invokevirtual 103, 3) := by decide +kernel
theorem dX8_buyTruce_33 : decode cX8_buyTruce 33 = .ok (.aload_n 0, 1) := by decide +kernel
theorem dX8_buyTruce_34 : decode cX8_buyTruce 34 = .ok (.aload_n 0, 1) := by decide +kernel
theorem dX8_buyTruce_35 : decode cX8_buyTruce 35 = .ok (.getfield 10, 3) := by decide +kernel
theorem dX8_buyTruce_38 : decode cX8_buyTruce 38 = .ok (.iload_n 1, 1) := by decide +kernel
theorem dX8_buyTruce_39 : decode cX8_buyTruce 39 = .ok (.iload_n 2, 1) := by decide +kernel
theorem dX8_buyTruce_40 : decode cX8_buyTruce 40 = .ok (.iload_n 3, 1) := by decide +kernel
theorem dX8_buyTruce_41 : decode cX8_buyTruce 41 = .ok (.invokevirtual 158, 3) := by decide +kernel
theorem dX8_buyTruce_44 : decode cX8_buyTruce 44 = .ok (.invokevirtual 110, 3) := by decide +kernel
theorem dX8_buyTruce_47 : decode cX8_buyTruce 47 = .ok (.aload_n 0, 1) := by decide +kernel
theorem dX8_buyTruce_48 : decode cX8_buyTruce 48 = .ok (.getfield 26, 3) := by decide +kernel
theorem dX8_buyTruce_51 : decode cX8_buyTruce 51 = .ok (.aload_n 0, 1) := by decide +kernel
theorem dX8_buyTruce_52 : decode cX8_buyTruce 52 = .ok (.getfield 10, 3) := by decide +kernel
theorem dX8_buyTruce_55 : decode cX8_buyTruce 55 = .ok (.invokevirtual 92, 3) := by decide +kernel
theorem dX8_buyTruce_58 : decode cX8_buyTruce 58 = .ok (.aload_n 0, 1) := by decide +kernel
theorem dX8_buyTruce_59 : decode cX8_buyTruce 59 = .ok (.getfield 10, 3) := by decide +kernel
theorem dX8_buyTruce_62 : decode cX8_buyTruce 62 = .ok (.iload_n 1, 1) := by decide +kernel
theorem dX8_buyTruce_63 : decode cX8_buyTruce 63 = .ok (.iload_n 2, 1) := by decide +kernel
theorem dX8_buyTruce_64 : decode cX8_buyTruce 64 = .ok (.iload_n 3, 1) := by decide +kernel
theorem dX8_buyTruce_65 : decode cX8_buyTruce 65 = .ok (.iload 4, 2) := by decide +kernel
theorem dX8_buyTruce_67 : decode cX8_buyTruce 67 = .ok (.invokevirtual 58, 3) := by decide +kernel
theorem dX8_buyTruce_70 : decode cX8_buyTruce 70 = .ok (.ireturn, 1) := by decide +kernel
theorem dX8_nominate_0 : decode cX8_nominate 0 = .ok (.aload_n 0, 1) := by decide +kernel
theorem dX8_nominate_1 : decode cX8_nominate 1 = .ok (.iload_n 1, 1) := by decide +kernel
theorem dX8_nominate_2 : decode cX8_nominate 2 = .ok (.iconst 1, 1) := by decide +kernel
theorem dX8_nominate_3 : decode cX8_nominate 3 = .ok (.bipush 9, 2) := by decide +kernel
theorem dX8_nominate_5 : decode cX8_nominate 5 = .ok (.invokevirtual 103, 3) := by decide +kernel
theorem dX8_nominate_8 : decode cX8_nominate 8 = .ok (.aload_n 0, 1) := by decide +kernel
theorem dX8_nominate_9 : decode cX8_nominate 9 = .ok (.iload_n 2, 1) := by decide +kernel
theorem dX8_nominate_10 : decode cX8_nominate 10 = .ok (.iconst 1, 1) := by decide +kernel
theorem dX8_nominate_11 : decode cX8_nominate 11 = .ok (.bipush 9, 2) := by decide +kernel
theorem dX8_nominate_13 : decode cX8_nominate 13 = .ok (.invokevirtual 103, 3) := by decide +kernel
theorem dX8_nominate_16 : decode cX8_nominate 16 = .ok (.aload_n 0, 1) := by decide +kernel
theorem dX8_nominate_17 : decode cX8_nominate 17 = .ok (.aload_n 0, 1) := by decide +kernel
theorem dX8_nominate_18 : decode cX8_nominate 18 = .ok (.getfield 10, 3) := by decide +kernel
theorem dX8_nominate_21 : decode cX8_nominate 21 = .ok (.invokevirtual 162, 3) := by decide +kernel
theorem dX8_nominate_24 : decode cX8_nominate 24 = .ok (.invokevirtual 110, 3) := by decide +kernel
theorem dX8_nominate_27 : decode cX8_nominate 27 = .ok (.aload_n 0, 1) := by decide +kernel
theorem dX8_nominate_28 : decode cX8_nominate 28 = .ok (.getfield 26, 3) := by decide +kernel
theorem dX8_nominate_31 : decode cX8_nominate 31 = .ok (.aload_n 0, 1) := by decide +kernel
theorem dX8_nominate_32 : decode cX8_nominate 32 = .ok (.getfield 10, 3) := by decide +kernel
theorem dX8_nominate_35 : decode cX8_nominate 35 = .ok (.invokevirtual 92, 3) := by decide +kernel
theorem dX8_nominate_38 : decode cX8_nominate 38 = .ok (.aload_n 0, 1) := by decide +kernel
theorem dX8_nominate_39 : decode cX8_nominate 39 = .ok (.getfield 10, 3) := by decide +kernel
theorem dX8_nominate_42 : decode cX8_nominate 42 = .ok (.getfield 166, 3) := by decide +kernel
theorem dX8_nominate_45 : decode cX8_nominate 45 = .ok (.iload_n 1, 1) := by decide +kernel
theorem dX8_nominate_46 : decode cX8_nominate 46 = .ok (.iload_n 2, 1) := by decide +kernel
theorem dX8_nominate_47 : decode cX8_nominate 47 = .ok (.invokevirtual 170, 3) := by decide +kernel
theorem dX8_nominate_50 : decode cX8_nominate 50 = .ok (.aload_n 0, 1) := by decide +kernel
theorem dX8_nominate_51 : decode cX8_nominate 51 = .ok (.getfield 10, 3) := by decide +kernel
theorem dX8_nominate_54 : decode cX8_nominate 54 = .ok (.getfield 100, 3) := by decide +kernel
theorem dX8_nominate_57 : decode cX8_nominate 57 = .ok (.ireturn, 1) := by decide +kernel
theorem dX8_vote_0 : decode cX8_vote 0 = .ok (.aload_n 0, 1) := by decide +kernel
theorem dX8_vote_1 : decode cX8_vote 1 = .ok (.iload_n 1, 1) := by decide +kernel
theorem dX8_vote_2 : decode cX8_vote 2 = .ok (.invokevirtual 128, 3) := by decide +kernel
theorem dX8_vote_5 : decode cX8_vote 5 = .ok (.aload_n 0, 1) := by decide +kernel
theorem dX8_vote_6 : decode cX8_vote 6 = .ok (.aload_n 0, 1) := by decide +kernel
theorem dX8_vote_7 : decode cX8_vote 7 = .ok (.getfield 10, 3) := by decide +kernel
theorem dX8_vote_10 : decode cX8_vote 10 = .ok (.iload_n 1, 1) := by decide +kernel
theorem dX8_vote_11 : decode cX8_vote 11 = .ok (.invokevirtual 175, 3) := by decide +kernel
theorem dX8_vote_14 : decode cX8_vote 14 = .ok (.invokevirtual 110, 3) := by decide +kernel
theorem dX8_vote_17 : decode cX8_vote 17 = .ok (.aload_n 0, 1) := by decide +kernel
theorem dX8_vote_18 : decode cX8_vote 18 = .ok (.getfield 26, 3) := by decide +kernel
theorem dX8_vote_21 : decode cX8_vote 21 = .ok (.aload_n 0, 1) := by decide +kernel
theorem dX8_vote_22 : decode cX8_vote 22 = .ok (.getfield 10, 3) := by decide +kernel
theorem dX8_vote_25 : decode cX8_vote 25 = .ok (.invokevirtual 92, 3) := by decide +kernel
theorem dX8_vote_28 : decode cX8_vote 28 = .ok (.aload_n 0, 1) := by decide +kernel
theorem dX8_vote_29 : decode cX8_vote 29 = .ok (.getfield 10, 3) := by decide +kernel
theorem dX8_vote_32 : decode cX8_vote 32 = .ok (.iload_n 1, 1) := by decide +kernel
theorem dX8_vote_33 : decode cX8_vote 33 = .ok (.iload_n 2, 1) := by decide +kernel
theorem dX8_vote_34 : decode cX8_vote 34 = .ok (.invokevirtual 178, 3) := by decide +kernel
theorem dX8_vote_37 : decode cX8_vote 37 = .ok (.ireturn, 1) := by decide +kernel
theorem dX8_passNights_0 : decode cX8_passNights 0 = .ok (.aload_n 0, 1) := by decide +kernel
theorem dX8_passNights_1 : decode cX8_passNights 1 = .ok (.iload_n 1, 1) := by decide +kernel
theorem dX8_passNights_2 : decode cX8_passNights 2 = .ok (.iconst 1, 1) := by decide +kernel
theorem dX8_passNights_3 : decode cX8_passNights 3 = .ok (.bipush 30, 2) := by decide +kernel
theorem dX8_passNights_5 : decode cX8_passNights 5 = .ok (.invokevirtual 103, 3) := by decide +kernel
theorem dX8_passNights_8 : decode cX8_passNights 8 = .ok (.aload_n 0, 1) := by decide +kernel
theorem dX8_passNights_9 : decode cX8_passNights 9 = .ok (.aload_n 0, 1) := by decide +kernel
theorem dX8_passNights_10 : decode cX8_passNights 10 = .ok (.getfield 10, 3) := by decide +kernel
theorem dX8_passNights_13 : decode cX8_passNights 13 = .ok (.iload_n 1, 1) := by decide +kernel
theorem dX8_passNights_14 : decode cX8_passNights 14 = .ok (.invokevirtual 182, 3) := by decide +kernel
theorem dX8_passNights_17 : decode cX8_passNights 17 = .ok (.invokevirtual 110, 3) := by decide +kernel
theorem dX8_passNights_20 : decode cX8_passNights 20 = .ok (.aload_n 0, 1) := by decide +kernel
theorem dX8_passNights_21 : decode cX8_passNights 21 = .ok (.getfield 26, 3) := by decide +kernel
theorem dX8_passNights_24 : decode cX8_passNights 24 = .ok (.aload_n 0, 1) := by decide +kernel
theorem dX8_passNights_25 : decode cX8_passNights 25 = .ok (.getfield 10, 3) := by decide +kernel
theorem dX8_passNights_28 : decode cX8_passNights 28 = .ok (.invokevirtual 92, 3) := by decide +kernel
theorem dX8_passNights_31 : decode cX8_passNights 31 = .ok (.aload_n 0, 1) := by decide +kernel
theorem dX8_passNights_32 : decode cX8_passNights 32 = .ok (.getfield 10, 3) := by decide +kernel
theorem dX8_passNights_35 : decode cX8_passNights 35 = .ok (.iload_n 1, 1) := by decide +kernel
theorem dX8_passNights_36 : decode cX8_passNights 36 = .ok (.invokevirtual 62, 3) := by decide +kernel
theorem dX8_passNights_39 : decode cX8_passNights 39 = .ok (.ireturn, 1) := by decide +kernel
theorem dX8_undo_0 : decode cX8_undo 0 = .ok (.aload_n 0, 1) := by decide +kernel
theorem dX8_undo_1 : decode cX8_undo 1 = .ok (.getfield 26, 3) := by decide +kernel
theorem dX8_undo_4 : decode cX8_undo 4 = .ok (.getfield 185, 3) := by decide +kernel
theorem dX8_undo_7 : decode cX8_undo 7 = .ok (.ifCond .ne 5, 3) := by decide +kernel
theorem dX8_undo_10 : decode cX8_undo 10 = .ok (.iconst (-1), 1) := by decide +kernel
theorem dX8_undo_11 : decode cX8_undo 11 = .ok (.ireturn, 1) := by decide +kernel
theorem dX8_undo_12 : decode cX8_undo 12 = .ok (.aload_n 0, 1) := by decide +kernel
theorem dX8_undo_13 : decode cX8_undo 13 = .ok (.getfield 26, 3) := by decide +kernel
theorem dX8_undo_16 : decode cX8_undo 16 = .ok (.aload_n 0, 1) := by decide +kernel
theorem dX8_undo_17 : decode cX8_undo 17 = .ok (.getfield 10, 3) := by decide +kernel
theorem dX8_undo_20 : decode cX8_undo 20 = .ok (.invokevirtual 188, 3) := by decide +kernel
theorem dX8_undo_23 : decode cX8_undo 23 = .ok (.aload_n 0, 1) := by decide +kernel
theorem dX8_undo_24 : decode cX8_undo 24 = .ok (.getfield 26, 3) := by decide +kernel
theorem dX8_undo_27 : decode cX8_undo 27 = .ok (.getfield 185, 3) := by decide +kernel
theorem dX8_undo_30 : decode cX8_undo 30 = .ok (.ireturn, 1) := by decide +kernel
theorem dX8_undoCount_0 : decode cX8_undoCount 0 = .ok (.aload_n 0, 1) := by decide +kernel
theorem dX8_undoCount_1 : decode cX8_undoCount 1 = .ok (.getfield 26, 3) := by decide +kernel
theorem dX8_undoCount_4 : decode cX8_undoCount 4 = .ok (.getfield 185, 3) := by decide +kernel
theorem dX8_undoCount_7 : decode cX8_undoCount 7 = .ok (.ireturn, 1) := by decide +kernel
theorem dX8_saveSnapshot_0 : decode cX8_saveSnapshot 0 = .ok (.aload_n 0, 1) := by decide +kernel
theorem dX8_saveSnapshot_1 : decode cX8_saveSnapshot 1 = .ok (.getfield 16, 3) := by decide +kernel
theorem dX8_saveSnapshot_4 : decode cX8_saveSnapshot 4 = .ok (.aload_n 0, 1) := by decide +kernel
theorem dX8_saveSnapshot_5 : decode cX8_saveSnapshot 5 = .ok (.getfield 10, 3) := by decide +kernel
theorem dX8_saveSnapshot_8 : decode cX8_saveSnapshot 8 = .ok (.invokevirtual 97, 3) := by decide +kernel
theorem dX8_saveSnapshot_11 : decode cX8_saveSnapshot 11 = .ok (.aload_n 0, 1) := by decide +kernel
theorem dX8_saveSnapshot_12 : decode cX8_saveSnapshot 12 = .ok (.iconst 1, 1) := by decide +kernel
theorem dX8_saveSnapshot_13 : decode cX8_saveSnapshot 13 = .ok (.putfield 19, 3) := by decide +kernel
theorem dX8_saveSnapshot_16 : decode cX8_saveSnapshot 16 = .ok (.aload_n 0, 1) := by decide +kernel
theorem dX8_saveSnapshot_17 : decode cX8_saveSnapshot 17 = .ok (.getfield 10, 3) := by decide +kernel
theorem dX8_saveSnapshot_20 : decode cX8_saveSnapshot 20 = .ok (.getfield 191, 3) := by decide +kernel
theorem dX8_saveSnapshot_23 : decode cX8_saveSnapshot 23 = .ok (.ireturn, 1) := by decide +kernel
theorem dX8_restoreSnapshot_0 : decode cX8_restoreSnapshot 0 = .ok (.aload_n 0, 1) := by decide +kernel
theorem dX8_restoreSnapshot_1 : decode cX8_restoreSnapshot 1 = .ok (.getfield 19, 3) := by decide +kernel
theorem dX8_restoreSnapshot_4 : decode cX8_restoreSnapshot 4 = .ok (.ifCond .ne 13, 3) := by decide +kernel
theorem dX8_restoreSnapshot_7 : decode cX8_restoreSnapshot 7 = .ok (.new 194, 3) := by decide +kernel
theorem dX8_restoreSnapshot_10 : decode cX8_restoreSnapshot 10 = .ok (.dup, 1) := by decide +kernel
theorem dX8_restoreSnapshot_11 : decode cX8_restoreSnapshot 11 = .ok (.ldc 196, 2) := by decide +kernel
theorem dX8_restoreSnapshot_13 : decode cX8_restoreSnapshot 13 = .ok (.invokespecial 198, 3) := by decide +kernel
theorem dX8_restoreSnapshot_16 : decode cX8_restoreSnapshot 16 = .ok (.athrow, 1) := by decide +kernel
theorem dX8_restoreSnapshot_17 : decode cX8_restoreSnapshot 17 = .ok (.aload_n 0, 1) := by decide +kernel
theorem dX8_restoreSnapshot_18 : decode cX8_restoreSnapshot 18 = .ok (.getfield 10, 3) := by decide +kernel
theorem dX8_restoreSnapshot_21 : decode cX8_restoreSnapshot 21 = .ok (.aload_n 0, 1) := by decide +kernel
theorem dX8_restoreSnapshot_22 : decode cX8_restoreSnapshot 22 = .ok (.getfield 16, 3) := by decide +kernel
theorem dX8_restoreSnapshot_25 : decode cX8_restoreSnapshot 25 = .ok (.invokevirtual 97, 3) := by decide +kernel
theorem dX8_restoreSnapshot_28 : decode cX8_restoreSnapshot 28 = .ok (.aload_n 0, 1) := by decide +kernel
theorem dX8_restoreSnapshot_29 : decode cX8_restoreSnapshot 29 = .ok (.getfield 26, 3) := by decide +kernel
theorem dX8_restoreSnapshot_32 : decode cX8_restoreSnapshot 32 = .ok (.invokevirtual 199, 3) := by decide +kernel
theorem dX8_restoreSnapshot_35 : decode cX8_restoreSnapshot 35 = .ok (.aload_n 0, 1) := by decide +kernel
theorem dX8_restoreSnapshot_36 : decode cX8_restoreSnapshot 36 = .ok (.getfield 10, 3) := by decide +kernel
theorem dX8_restoreSnapshot_39 : decode cX8_restoreSnapshot 39 = .ok (.getfield 191, 3) := by decide +kernel
theorem dX8_restoreSnapshot_42 : decode cX8_restoreSnapshot 42 = .ok (.ireturn, 1) := by decide +kernel
theorem dX8_scriptErrorKind_0 : decode cX8_scriptErrorKind 0 = .ok (.aload_n 0, 1) := by decide +kernel
theorem dX8_scriptErrorKind_1 : decode cX8_scriptErrorKind 1 = .ok (.getfield 33, 3) := by decide +kernel
theorem dX8_scriptErrorKind_4 : decode cX8_scriptErrorKind 4 = .ok (.getfield 89, 3) := by decide +kernel
theorem dX8_scriptErrorKind_7 : decode cX8_scriptErrorKind 7 = .ok (.ireturn, 1) := by decide +kernel
theorem dX8_scriptErrorOffset_0 : decode cX8_scriptErrorOffset 0 = .ok (.aload_n 0, 1) := by decide +kernel
theorem dX8_scriptErrorOffset_1 : decode cX8_scriptErrorOffset 1 = .ok (.getfield 33, 3) := by decide +kernel
theorem dX8_scriptErrorOffset_4 : decode cX8_scriptErrorOffset 4 = .ok (.getfield 202, 3) := by decide +kernel
theorem dX8_scriptErrorOffset_7 : decode cX8_scriptErrorOffset 7 = .ok (.ireturn, 1) := by decide +kernel
theorem dX8_chimneyCount_0 : decode cX8_chimneyCount 0 = .ok (.aload_n 0, 1) := by decide +kernel
theorem dX8_chimneyCount_1 : decode cX8_chimneyCount 1 = .ok (.getfield 10, 3) := by decide +kernel
theorem dX8_chimneyCount_4 : decode cX8_chimneyCount 4 = .ok (.getfield 107, 3) := by decide +kernel
theorem dX8_chimneyCount_7 : decode cX8_chimneyCount 7 = .ok (.ireturn, 1) := by decide +kernel
theorem dX8_gutterCount_0 : decode cX8_gutterCount 0 = .ok (.aload_n 0, 1) := by decide +kernel
theorem dX8_gutterCount_1 : decode cX8_gutterCount 1 = .ok (.getfield 10, 3) := by decide +kernel
theorem dX8_gutterCount_4 : decode cX8_gutterCount 4 = .ok (.getfield 121, 3) := by decide +kernel
theorem dX8_gutterCount_7 : decode cX8_gutterCount 7 = .ok (.ireturn, 1) := by decide +kernel
theorem dX8_catCount_0 : decode cX8_catCount 0 = .ok (.aload_n 0, 1) := by decide +kernel
theorem dX8_catCount_1 : decode cX8_catCount 1 = .ok (.getfield 10, 3) := by decide +kernel
theorem dX8_catCount_4 : decode cX8_catCount 4 = .ok (.getfield 100, 3) := by decide +kernel
theorem dX8_catCount_7 : decode cX8_catCount 7 = .ok (.ireturn, 1) := by decide +kernel
theorem dX8_night_0 : decode cX8_night 0 = .ok (.aload_n 0, 1) := by decide +kernel
theorem dX8_night_1 : decode cX8_night 1 = .ok (.getfield 10, 3) := by decide +kernel
theorem dX8_night_4 : decode cX8_night 4 = .ok (.getfield 191, 3) := by decide +kernel
theorem dX8_night_7 : decode cX8_night 7 = .ok (.ireturn, 1) := by decide +kernel
theorem dX8_moonPhase_0 : decode cX8_moonPhase 0 = .ok (.aload_n 0, 1) := by decide +kernel
theorem dX8_moonPhase_1 : decode cX8_moonPhase 1 = .ok (.getfield 10, 3) := by decide +kernel
theorem dX8_moonPhase_4 : decode cX8_moonPhase 4 = .ok (.getfield 191, 3) := by decide +kernel
theorem dX8_moonPhase_7 : decode cX8_moonPhase 7 = .ok (.bipush 8, 2) := by decide +kernel
theorem dX8_moonPhase_9 : decode cX8_moonPhase 9 = .ok (.irem, 1) := by decide +kernel
theorem dX8_moonPhase_10 : decode cX8_moonPhase 10 = .ok (.ireturn, 1) := by decide +kernel
theorem dX8_warmth_0 : decode cX8_warmth 0 = .ok (.aload_n 0, 1) := by decide +kernel
theorem dX8_warmth_1 : decode cX8_warmth 1 = .ok (.iload_n 1, 1) := by decide +kernel
theorem dX8_warmth_2 : decode cX8_warmth 2 = .ok (.invokevirtual 114, 3) := by decide +kernel
theorem dX8_warmth_5 : decode cX8_warmth 5 = .ok (.aload_n 0, 1) := by decide +kernel
theorem dX8_warmth_6 : decode cX8_warmth 6 = .ok (.getfield 10, 3) := by decide +kernel
theorem dX8_warmth_9 : decode cX8_warmth 9 = .ok (.getfield 205, 3) := by decide +kernel
theorem dX8_warmth_12 : decode cX8_warmth 12 = .ok (.iload_n 1, 1) := by decide +kernel
theorem dX8_warmth_13 : decode cX8_warmth 13 = .ok (.iaload, 1) := by decide +kernel
theorem dX8_warmth_14 : decode cX8_warmth 14 = .ok (.ireturn, 1) := by decide +kernel
theorem dX8_ownerOf_0 : decode cX8_ownerOf 0 = .ok (.aload_n 0, 1) := by decide +kernel
theorem dX8_ownerOf_1 : decode cX8_ownerOf 1 = .ok (.iload_n 1, 1) := by decide +kernel
theorem dX8_ownerOf_2 : decode cX8_ownerOf 2 = .ok (.invokevirtual 114, 3) := by decide +kernel
theorem dX8_ownerOf_5 : decode cX8_ownerOf 5 = .ok (.aload_n 0, 1) := by decide +kernel
theorem dX8_ownerOf_6 : decode cX8_ownerOf 6 = .ok (.getfield 10, 3) := by decide +kernel
theorem dX8_ownerOf_9 : decode cX8_ownerOf 9 = .ok (.getfield 144, 3) := by decide +kernel
theorem dX8_ownerOf_12 : decode cX8_ownerOf 12 = .ok (.iload_n 1, 1) := by decide +kernel
theorem dX8_ownerOf_13 : decode cX8_ownerOf 13 = .ok (.iaload, 1) := by decide +kernel
theorem dX8_ownerOf_14 : decode cX8_ownerOf 14 = .ok (.ireturn, 1) := by decide +kernel
theorem dX8_catOn_0 : decode cX8_catOn 0 = .ok (.aload_n 0, 1) := by decide +kernel
theorem dX8_catOn_1 : decode cX8_catOn 1 = .ok (.iload_n 1, 1) := by decide +kernel
theorem dX8_catOn_2 : decode cX8_catOn 2 = .ok (.invokevirtual 114, 3) := by decide +kernel
theorem dX8_catOn_5 : decode cX8_catOn 5 = .ok (.aload_n 0, 1) := by decide +kernel
theorem dX8_catOn_6 : decode cX8_catOn 6 = .ok (.getfield 10, 3) := by decide +kernel
theorem dX8_catOn_9 : decode cX8_catOn 9 = .ok (.iload_n 1, 1) := by decide +kernel
theorem dX8_catOn_10 : decode cX8_catOn 10 = .ok (.invokevirtual 208, 3) := by decide +kernel
theorem dX8_catOn_13 : decode cX8_catOn 13 = .ok (.ireturn, 1) := by decide +kernel
theorem dX8_gutterEnds_0 : decode cX8_gutterEnds 0 = .ok (.aload_n 0, 1) := by decide +kernel
theorem dX8_gutterEnds_1 : decode cX8_gutterEnds 1 = .ok (.iload_n 1, 1) := by decide +kernel
theorem dX8_gutterEnds_2 : decode cX8_gutterEnds 2 = .ok (.invokevirtual 131, 3) := by decide +kernel
theorem dX8_gutterEnds_5 : decode cX8_gutterEnds 5 = .ok (.iconst 1, 1) := by decide +kernel
theorem dX8_gutterEnds_6 : decode cX8_gutterEnds 6 = .ok (.aload_n 0, 1) := by decide +kernel
theorem dX8_gutterEnds_7 : decode cX8_gutterEnds 7 = .ok (.getfield 10, 3) := by decide +kernel
theorem dX8_gutterEnds_10 : decode cX8_gutterEnds 10 = .ok (.getfield 211, 3) := by decide +kernel
theorem dX8_gutterEnds_13 : decode cX8_gutterEnds 13 = .ok (.iload_n 1, 1) := by decide +kernel
theorem dX8_gutterEnds_14 : decode cX8_gutterEnds 14 = .ok (.iaload, 1) := by decide +kernel
theorem dX8_gutterEnds_15 : decode cX8_gutterEnds 15 = .ok (.ishl, 1) := by decide +kernel
theorem dX8_gutterEnds_16 : decode cX8_gutterEnds 16 = .ok (.iconst 1, 1) := by decide +kernel
theorem dX8_gutterEnds_17 : decode cX8_gutterEnds 17 = .ok (.aload_n 0, 1) := by decide +kernel
theorem dX8_gutterEnds_18 : decode cX8_gutterEnds 18 = .ok (.getfield 10, 3) := by decide +kernel
theorem dX8_gutterEnds_21 : decode cX8_gutterEnds 21 = .ok (.getfield 214, 3) := by decide +kernel
theorem dX8_gutterEnds_24 : decode cX8_gutterEnds 24 = .ok (.iload_n 1, 1) := by decide +kernel
theorem dX8_gutterEnds_25 : decode cX8_gutterEnds 25 = .ok (.iaload, 1) := by decide +kernel
theorem dX8_gutterEnds_26 : decode cX8_gutterEnds 26 = .ok (.ishl, 1) := by decide +kernel
theorem dX8_gutterEnds_27 : decode cX8_gutterEnds 27 = .ok (.ior, 1) := by decide +kernel
theorem dX8_gutterEnds_28 : decode cX8_gutterEnds 28 = .ok (.ireturn, 1) := by decide +kernel
theorem dX8_width_0 : decode cX8_width 0 = .ok (.aload_n 0, 1) := by decide +kernel
theorem dX8_width_1 : decode cX8_width 1 = .ok (.iload_n 1, 1) := by decide +kernel
theorem dX8_width_2 : decode cX8_width 2 = .ok (.invokevirtual 131, 3) := by decide +kernel
theorem dX8_width_5 : decode cX8_width 5 = .ok (.aload_n 0, 1) := by decide +kernel
theorem dX8_width_6 : decode cX8_width 6 = .ok (.getfield 10, 3) := by decide +kernel
theorem dX8_width_9 : decode cX8_width 9 = .ok (.getfield 217, 3) := by decide +kernel
theorem dX8_width_12 : decode cX8_width 12 = .ok (.iload_n 1, 1) := by decide +kernel
theorem dX8_width_13 : decode cX8_width 13 = .ok (.iaload, 1) := by decide +kernel
theorem dX8_width_14 : decode cX8_width 14 = .ok (.ireturn, 1) := by decide +kernel
theorem dX8_widestWay_0 : decode cX8_widestWay 0 = .ok (.aload_n 0, 1) := by decide +kernel
theorem dX8_widestWay_1 : decode cX8_widestWay 1 = .ok (.iload_n 1, 1) := by decide +kernel
theorem dX8_widestWay_2 : decode cX8_widestWay 2 = .ok (.invokevirtual 114, 3) := by decide +kernel
theorem dX8_widestWay_5 : decode cX8_widestWay 5 = .ok (.aload_n 0, 1) := by decide +kernel
theorem dX8_widestWay_6 : decode cX8_widestWay 6 = .ok (.iload_n 2, 1) := by decide +kernel
theorem dX8_widestWay_7 : decode cX8_widestWay 7 = .ok (.invokevirtual 114, 3) := by decide +kernel
theorem dX8_widestWay_10 : decode cX8_widestWay 10 = .ok (.aload_n 0, 1) := by decide +kernel
theorem dX8_widestWay_11 : decode cX8_widestWay 11 = .ok (.getfield 10, 3) := by decide +kernel
theorem dX8_widestWay_14 : decode cX8_widestWay 14 = .ok (.iload_n 1, 1) := by decide +kernel
theorem dX8_widestWay_15 : decode cX8_widestWay 15 = .ok (.iload_n 2, 1) := by decide +kernel
theorem dX8_widestWay_16 : decode cX8_widestWay 16 = .ok (.invokevirtual 220, 3) := by decide +kernel
theorem dX8_widestWay_19 : decode cX8_widestWay 19 = .ok (.ireturn, 1) := by decide +kernel
theorem dX8_warmestFree_0 : decode cX8_warmestFree 0 = .ok (.aload_n 0, 1) := by decide +kernel
theorem dX8_warmestFree_1 : decode cX8_warmestFree 1 = .ok (.getfield 10, 3) := by decide +kernel
theorem dX8_warmestFree_4 : decode cX8_warmestFree 4 = .ok (.invokevirtual 223, 3) := by decide +kernel
theorem dX8_warmestFree_7 : decode cX8_warmestFree 7 = .ok (.ireturn, 1) := by decide +kernel
theorem dX8_girth_0 : decode cX8_girth 0 = .ok (.aload_n 0, 1) := by decide +kernel
theorem dX8_girth_1 : decode cX8_girth 1 = .ok (.iload_n 1, 1) := by decide +kernel
theorem dX8_girth_2 : decode cX8_girth 2 = .ok (.invokevirtual 128, 3) := by decide +kernel
theorem dX8_girth_5 : decode cX8_girth 5 = .ok (.aload_n 0, 1) := by decide +kernel
theorem dX8_girth_6 : decode cX8_girth 6 = .ok (.getfield 10, 3) := by decide +kernel
theorem dX8_girth_9 : decode cX8_girth 9 = .ok (.getfield 227, 3) := by decide +kernel
theorem dX8_girth_12 : decode cX8_girth 12 = .ok (.iload_n 1, 1) := by decide +kernel
theorem dX8_girth_13 : decode cX8_girth 13 = .ok (.iaload, 1) := by decide +kernel
theorem dX8_girth_14 : decode cX8_girth 14 = .ok (.ireturn, 1) := by decide +kernel
theorem dX8_power_0 : decode cX8_power 0 = .ok (.aload_n 0, 1) := by decide +kernel
theorem dX8_power_1 : decode cX8_power 1 = .ok (.iload_n 1, 1) := by decide +kernel
theorem dX8_power_2 : decode cX8_power 2 = .ok (.invokevirtual 128, 3) := by decide +kernel
theorem dX8_power_5 : decode cX8_power 5 = .ok (.aload_n 0, 1) := by decide +kernel
theorem dX8_power_6 : decode cX8_power 6 = .ok (.getfield 10, 3) := by decide +kernel
theorem dX8_power_9 : decode cX8_power 9 = .ok (.iload_n 1, 1) := by decide +kernel
theorem dX8_power_10 : decode cX8_power 10 = .ok (.invokevirtual 230, 3) := by decide +kernel
theorem dX8_power_13 : decode cX8_power 13 = .ok (.ireturn, 1) := by decide +kernel
theorem dX8_fish_0 : decode cX8_fish 0 = .ok (.aload_n 0, 1) := by decide +kernel
theorem dX8_fish_1 : decode cX8_fish 1 = .ok (.iload_n 1, 1) := by decide +kernel
theorem dX8_fish_2 : decode cX8_fish 2 = .ok (.invokevirtual 128, 3) := by decide +kernel
theorem dX8_fish_5 : decode cX8_fish 5 = .ok (.aload_n 0, 1) := by decide +kernel
theorem dX8_fish_6 : decode cX8_fish 6 = .ok (.getfield 10, 3) := by decide +kernel
theorem dX8_fish_9 : decode cX8_fish 9 = .ok (.getfield 233, 3) := by decide +kernel
theorem dX8_fish_12 : decode cX8_fish 12 = .ok (.iload_n 1, 1) := by decide +kernel
theorem dX8_fish_13 : decode cX8_fish 13 = .ok (.iaload, 1) := by decide +kernel
theorem dX8_fish_14 : decode cX8_fish 14 = .ok (.ireturn, 1) := by decide +kernel
theorem dX8_chimneyOf_0 : decode cX8_chimneyOf 0 = .ok (.aload_n 0, 1) := by decide +kernel
theorem dX8_chimneyOf_1 : decode cX8_chimneyOf 1 = .ok (.iload_n 1, 1) := by decide +kernel
theorem dX8_chimneyOf_2 : decode cX8_chimneyOf 2 = .ok (.invokevirtual 128, 3) := by decide +kernel
theorem dX8_chimneyOf_5 : decode cX8_chimneyOf 5 = .ok (.aload_n 0, 1) := by decide +kernel
theorem dX8_chimneyOf_6 : decode cX8_chimneyOf 6 = .ok (.getfield 10, 3) := by decide +kernel
theorem dX8_chimneyOf_9 : decode cX8_chimneyOf 9 = .ok (.getfield 236, 3) := by decide +kernel
theorem dX8_chimneyOf_12 : decode cX8_chimneyOf 12 = .ok (.iload_n 1, 1) := by decide +kernel
theorem dX8_chimneyOf_13 : decode cX8_chimneyOf 13 = .ok (.iaload, 1) := by decide +kernel
theorem dX8_chimneyOf_14 : decode cX8_chimneyOf 14 = .ok (.ireturn, 1) := by decide +kernel
theorem dX8_ownedChimneys_0 : decode cX8_ownedChimneys 0 = .ok (.aload_n 0, 1) := by decide +kernel
theorem dX8_ownedChimneys_1 : decode cX8_ownedChimneys 1 = .ok (.iload_n 1, 1) := by decide +kernel
theorem dX8_ownedChimneys_2 : decode cX8_ownedChimneys 2 = .ok (.invokevirtual 128, 3) := by decide +kernel
theorem dX8_ownedChimneys_5 : decode cX8_ownedChimneys 5 = .ok (.aload_n 0, 1) := by decide +kernel
theorem dX8_ownedChimneys_6 : decode cX8_ownedChimneys 6 = .ok (.getfield 10, 3) := by decide +kernel
theorem dX8_ownedChimneys_9 : decode cX8_ownedChimneys 9 = .ok (.iload_n 1, 1) := by decide +kernel
theorem dX8_ownedChimneys_10 : decode cX8_ownedChimneys 10 = .ok (.invokevirtual 239, 3) := by decide +kernel
theorem dX8_ownedChimneys_13 : decode cX8_ownedChimneys 13 = .ok (.ireturn, 1) := by decide +kernel
theorem dX8_truceNights_0 : decode cX8_truceNights 0 = .ok (.aload_n 0, 1) := by decide +kernel
theorem dX8_truceNights_1 : decode cX8_truceNights 1 = .ok (.iload_n 1, 1) := by decide +kernel
theorem dX8_truceNights_2 : decode cX8_truceNights 2 = .ok (.invokevirtual 128, 3) := by decide +kernel
theorem dX8_truceNights_5 : decode cX8_truceNights 5 = .ok (.aload_n 0, 1) := by decide +kernel
theorem dX8_truceNights_6 : decode cX8_truceNights 6 = .ok (.iload_n 2, 1) := by decide +kernel
theorem dX8_truceNights_7 : decode cX8_truceNights 7 = .ok (.invokevirtual 128, 3) := by decide +kernel
theorem dX8_truceNights_10 : decode cX8_truceNights 10 = .ok (.aload_n 0, 1) := by decide +kernel
theorem dX8_truceNights_11 : decode cX8_truceNights 11 = .ok (.iload_n 1, 1) := by decide +kernel
theorem dX8_truceNights_12 : decode cX8_truceNights 12 = .ok (.iload_n 2, 1) := by decide +kernel
theorem dX8_truceNights_13 : decode cX8_truceNights 13 = .ok (.invokevirtual 117, 3) := by decide +kernel
theorem dX8_truceNights_16 : decode cX8_truceNights 16 = .ok (.aload_n 0, 1) := by decide +kernel
theorem dX8_truceNights_17 : decode cX8_truceNights 17 = .ok (.getfield 10, 3) := by decide +kernel
theorem dX8_truceNights_20 : decode cX8_truceNights 20 = .ok (.iload_n 1, 1) := by decide +kernel
theorem dX8_truceNights_21 : decode cX8_truceNights 21 = .ok (.iload_n 2, 1) := by decide +kernel
theorem dX8_truceNights_22 : decode cX8_truceNights 22 = .ok (.invokevirtual 242, 3) := by decide +kernel
theorem dX8_truceNights_25 : decode cX8_truceNights 25 = .ok (.ireturn, 1) := by decide +kernel
theorem dX8_reachable_0 : decode cX8_reachable 0 = .ok (.aload_n 0, 1) := by decide +kernel
theorem dX8_reachable_1 : decode cX8_reachable 1 = .ok (.iload_n 1, 1) := by decide +kernel
theorem dX8_reachable_2 : decode cX8_reachable 2 = .ok (.invokevirtual 128, 3) := by decide +kernel
theorem dX8_reachable_5 : decode cX8_reachable 5 = .ok (.aload_n 0, 1) := by decide +kernel
theorem dX8_reachable_6 : decode cX8_reachable 6 = .ok (.getfield 10, 3) := by decide +kernel
theorem dX8_reachable_9 : decode cX8_reachable 9 = .ok (.iload_n 1, 1) := by decide +kernel
theorem dX8_reachable_10 : decode cX8_reachable 10 = .ok (.bipush 10, 2) := by decide +kernel
theorem dX8_reachable_12 : decode cX8_reachable 12 = .ok (.invokevirtual 245, 3) := by decide +kernel
theorem dX8_reachable_15 : decode cX8_reachable 15 = .ok (.ireturn, 1) := by decide +kernel
theorem dX8_stepsTo_0 : decode cX8_stepsTo 0 = .ok (.aload_n 0, 1) := by decide +kernel
theorem dX8_stepsTo_1 : decode cX8_stepsTo 1 = .ok (.iload_n 1, 1) := by decide +kernel
theorem dX8_stepsTo_2 : decode cX8_stepsTo 2 = .ok (.invokevirtual 128, 3) := by decide +kernel
theorem dX8_stepsTo_5 : decode cX8_stepsTo 5 = .ok (.aload_n 0, 1) := by decide +kernel
theorem dX8_stepsTo_6 : decode cX8_stepsTo 6 = .ok (.iload_n 2, 1) := by decide +kernel
theorem dX8_stepsTo_7 : decode cX8_stepsTo 7 = .ok (.invokevirtual 114, 3) := by decide +kernel
theorem dX8_stepsTo_10 : decode cX8_stepsTo 10 = .ok (.aload_n 0, 1) := by decide +kernel
theorem dX8_stepsTo_11 : decode cX8_stepsTo 11 = .ok (.getfield 10, 3) := by decide +kernel
theorem dX8_stepsTo_14 : decode cX8_stepsTo 14 = .ok (.iload_n 1, 1) := by decide +kernel
theorem dX8_stepsTo_15 : decode cX8_stepsTo 15 = .ok (.iload_n 2, 1) := by decide +kernel
theorem dX8_stepsTo_16 : decode cX8_stepsTo 16 = .ok (.invokevirtual 248, 3) := by decide +kernel
theorem dX8_stepsTo_19 : decode cX8_stepsTo 19 = .ok (.ireturn, 1) := by decide +kernel
theorem dX8_openGutters_0 : decode cX8_openGutters 0 = .ok (.aload_n 0, 1) := by decide +kernel
theorem dX8_openGutters_1 : decode cX8_openGutters 1 = .ok (.iload_n 1, 1) := by decide +kernel
theorem dX8_openGutters_2 : decode cX8_openGutters 2 = .ok (.invokevirtual 128, 3) := by decide +kernel
theorem dX8_openGutters_5 : decode cX8_openGutters 5 = .ok (.iconst 0, 1) := by decide +kernel
theorem dX8_openGutters_6 : decode cX8_openGutters 6 = .ok (.istore_n 2, 1) := by decide +kernel
theorem dX8_openGutters_7 : decode cX8_openGutters 7 = .ok (.iconst 0, 1) := by decide +kernel
theorem dX8_openGutters_8 : decode cX8_openGutters 8 = .ok (.istore_n 3, 1) := by decide +kernel
theorem dX8_openGutters_9 : decode cX8_openGutters 9 = .ok (.iload_n 3, 1) := by decide +kernel
theorem dX8_openGutters_10 : decode cX8_openGutters 10 = .ok (.aload_n 0, 1) := by decide +kernel
theorem dX8_openGutters_11 : decode cX8_openGutters 11 = .ok (.getfield 10, 3) := by decide +kernel
theorem dX8_openGutters_14 : decode cX8_openGutters 14 = .ok (.getfield 121, 3) := by decide +kernel
theorem dX8_openGutters_17 : decode cX8_openGutters 17 = .ok (.if_icmp .ge 27, 3) := by decide +kernel
theorem dX8_openGutters_20 : decode cX8_openGutters 20 = .ok (.aload_n 0, 1) := by decide +kernel
theorem dX8_openGutters_21 : decode cX8_openGutters 21 = .ok (.getfield 10, 3) := by decide +kernel
theorem dX8_openGutters_24 : decode cX8_openGutters 24 = .ok (.iload_n 1, 1) := by decide +kernel
theorem dX8_openGutters_25 : decode cX8_openGutters 25 = .ok (.iload_n 3, 1) := by decide +kernel
theorem dX8_openGutters_26 : decode cX8_openGutters 26 = .ok (.invokevirtual 134, 3) := by decide +kernel
theorem dX8_openGutters_29 : decode cX8_openGutters 29 = .ok (.ifCond .ne 9, 3) := by decide +kernel
theorem dX8_openGutters_32 : decode cX8_openGutters 32 = .ok (.iload_n 2, 1) := by decide +kernel
theorem dX8_openGutters_33 : decode cX8_openGutters 33 = .ok (.iconst 1, 1) := by decide +kernel
theorem dX8_openGutters_34 : decode cX8_openGutters 34 = .ok (.iload_n 3, 1) := by decide +kernel
theorem dX8_openGutters_35 : decode cX8_openGutters 35 = .ok (.ishl, 1) := by decide +kernel
theorem dX8_openGutters_36 : decode cX8_openGutters 36 = .ok (.ior, 1) := by decide +kernel
theorem dX8_openGutters_37 : decode cX8_openGutters 37 = .ok (.istore_n 2, 1) := by decide +kernel
theorem dX8_openGutters_38 : decode cX8_openGutters 38 = .ok (.iinc 3 1, 3) := by decide +kernel
theorem dX8_openGutters_41 : decode cX8_openGutters 41 = .ok (.goto (-32), 3) := by decide +kernel
theorem dX8_openGutters_44 : decode cX8_openGutters 44 = .ok (.iload_n 2, 1) := by decide +kernel
theorem dX8_openGutters_45 : decode cX8_openGutters 45 = .ok (.ireturn, 1) := by decide +kernel
theorem dX8_whyNoStep_0 : decode cX8_whyNoStep 0 = .ok (.aload_n 0, 1) := by decide +kernel
theorem dX8_whyNoStep_1 : decode cX8_whyNoStep 1 = .ok (.iload_n 1, 1) := by decide +kernel
theorem dX8_whyNoStep_2 : decode cX8_whyNoStep 2 = .ok (.invokevirtual 128, 3) := by decide +kernel
theorem dX8_whyNoStep_5 : decode cX8_whyNoStep 5 = .ok (.aload_n 0, 1) := by decide +kernel
theorem dX8_whyNoStep_6 : decode cX8_whyNoStep 6 = .ok (.iload_n 2, 1) := by decide +kernel
theorem dX8_whyNoStep_7 : decode cX8_whyNoStep 7 = .ok (.invokevirtual 131, 3) := by decide +kernel
theorem dX8_whyNoStep_10 : decode cX8_whyNoStep 10 = .ok (.aload_n 0, 1) := by decide +kernel
theorem dX8_whyNoStep_11 : decode cX8_whyNoStep 11 = .ok (.getfield 10, 3) := by decide +kernel
theorem dX8_whyNoStep_14 : decode cX8_whyNoStep 14 = .ok (.iload_n 1, 1) := by decide +kernel
theorem dX8_whyNoStep_15 : decode cX8_whyNoStep 15 = .ok (.iload_n 2, 1) := by decide +kernel
theorem dX8_whyNoStep_16 : decode cX8_whyNoStep 16 = .ok (.invokevirtual 134, 3) := by decide +kernel
theorem dX8_whyNoStep_19 : decode cX8_whyNoStep 19 = .ok (.ireturn, 1) := by decide +kernel
theorem dX8_whyNoClaim_0 : decode cX8_whyNoClaim 0 = .ok (.aload_n 0, 1) := by decide +kernel
theorem dX8_whyNoClaim_1 : decode cX8_whyNoClaim 1 = .ok (.iload_n 1, 1) := by decide +kernel
theorem dX8_whyNoClaim_2 : decode cX8_whyNoClaim 2 = .ok (.invokevirtual 128, 3) := by decide +kernel
theorem dX8_whyNoClaim_5 : decode cX8_whyNoClaim 5 = .ok (.aload_n 0, 1) := by decide +kernel
theorem dX8_whyNoClaim_6 : decode cX8_whyNoClaim 6 = .ok (.getfield 10, 3) := by decide +kernel
theorem dX8_whyNoClaim_9 : decode cX8_whyNoClaim 9 = .ok (.iload_n 1, 1) := by decide +kernel
theorem dX8_whyNoClaim_10 : decode cX8_whyNoClaim 10 = .ok (.invokevirtual 141, 3) := by decide +kernel
theorem dX8_whyNoClaim_13 : decode cX8_whyNoClaim 13 = .ok (.ireturn, 1) := by decide +kernel
theorem dX8_whyNoChase_0 : decode cX8_whyNoChase 0 = .ok (.aload_n 0, 1) := by decide +kernel
theorem dX8_whyNoChase_1 : decode cX8_whyNoChase 1 = .ok (.iload_n 1, 1) := by decide +kernel
theorem dX8_whyNoChase_2 : decode cX8_whyNoChase 2 = .ok (.invokevirtual 128, 3) := by decide +kernel
theorem dX8_whyNoChase_5 : decode cX8_whyNoChase 5 = .ok (.aload_n 0, 1) := by decide +kernel
theorem dX8_whyNoChase_6 : decode cX8_whyNoChase 6 = .ok (.iload_n 2, 1) := by decide +kernel
theorem dX8_whyNoChase_7 : decode cX8_whyNoChase 7 = .ok (.invokevirtual 128, 3) := by decide +kernel
theorem dX8_whyNoChase_10 : decode cX8_whyNoChase 10 = .ok (.aload_n 0, 1) := by decide +kernel
theorem dX8_whyNoChase_11 : decode cX8_whyNoChase 11 = .ok (.iload_n 1, 1) := by decide +kernel
theorem dX8_whyNoChase_12 : decode cX8_whyNoChase 12 = .ok (.iload_n 2, 1) := by decide +kernel
theorem dX8_whyNoChase_13 : decode cX8_whyNoChase 13 = .ok (.invokevirtual 117, 3) := by decide +kernel
theorem dX8_whyNoChase_16 : decode cX8_whyNoChase 16 = .ok (.aload_n 0, 1) := by decide +kernel
theorem dX8_whyNoChase_17 : decode cX8_whyNoChase 17 = .ok (.getfield 10, 3) := by decide +kernel
theorem dX8_whyNoChase_20 : decode cX8_whyNoChase 20 = .ok (.iload_n 1, 1) := by decide +kernel
theorem dX8_whyNoChase_21 : decode cX8_whyNoChase 21 = .ok (.iload_n 2, 1) := by decide +kernel
theorem dX8_whyNoChase_22 : decode cX8_whyNoChase 22 = .ok (.invokevirtual 151, 3) := by decide +kernel
theorem dX8_whyNoChase_25 : decode cX8_whyNoChase 25 = .ok (.ireturn, 1) := by decide +kernel
theorem dX8_preyOf_0 : decode cX8_preyOf 0 = .ok (.aload_n 0, 1) := by decide +kernel
theorem dX8_preyOf_1 : decode cX8_preyOf 1 = .ok (.iload_n 1, 1) := by decide +kernel
theorem dX8_preyOf_2 : decode cX8_preyOf 2 = .ok (.invokevirtual 128, 3) := by decide +kernel
theorem dX8_preyOf_5 : decode cX8_preyOf 5 = .ok (.iconst 0, 1) := by decide +kernel
theorem dX8_preyOf_6 : decode cX8_preyOf 6 = .ok (.istore_n 2, 1) := by decide +kernel
theorem dX8_preyOf_7 : decode cX8_preyOf 7 = .ok (.iconst 0, 1) := by decide +kernel
theorem dX8_preyOf_8 : decode cX8_preyOf 8 = .ok (.istore_n 3, 1) := by decide +kernel
theorem dX8_preyOf_9 : decode cX8_preyOf 9 = .ok (.iload_n 3, 1) := by decide +kernel
theorem dX8_preyOf_10 : decode cX8_preyOf 10 = .ok (.aload_n 0, 1) := by decide +kernel
theorem dX8_preyOf_11 : decode cX8_preyOf 11 = .ok (.getfield 10, 3) := by decide +kernel
theorem dX8_preyOf_14 : decode cX8_preyOf 14 = .ok (.getfield 100, 3) := by decide +kernel
theorem dX8_preyOf_17 : decode cX8_preyOf 17 = .ok (.if_icmp .ge 32, 3) := by decide +kernel
theorem dX8_preyOf_20 : decode cX8_preyOf 20 = .ok (.iload_n 3, 1) := by decide +kernel
theorem dX8_preyOf_21 : decode cX8_preyOf 21 = .ok (.iload_n 1, 1) := by decide +kernel
theorem dX8_preyOf_22 : decode cX8_preyOf 22 = .ok (.if_icmp .eq 21, 3) := by decide +kernel
theorem dX8_preyOf_25 : decode cX8_preyOf 25 = .ok (.aload_n 0, 1) := by decide +kernel
theorem dX8_preyOf_26 : decode cX8_preyOf 26 = .ok (.getfield 10, 3) := by decide +kernel
theorem dX8_preyOf_29 : decode cX8_preyOf 29 = .ok (.iload_n 1, 1) := by decide +kernel
theorem dX8_preyOf_30 : decode cX8_preyOf 30 = .ok (.iload_n 3, 1) := by decide +kernel
theorem dX8_preyOf_31 : decode cX8_preyOf 31 = .ok (.invokevirtual 151, 3) := by decide +kernel
theorem dX8_preyOf_34 : decode cX8_preyOf 34 = .ok (.ifCond .ne 9, 3) := by decide +kernel
theorem dX8_preyOf_37 : decode cX8_preyOf 37 = .ok (.iload_n 2, 1) := by decide +kernel
theorem dX8_preyOf_38 : decode cX8_preyOf 38 = .ok (.iconst 1, 1) := by decide +kernel
theorem dX8_preyOf_39 : decode cX8_preyOf 39 = .ok (.iload_n 3, 1) := by decide +kernel
theorem dX8_preyOf_40 : decode cX8_preyOf 40 = .ok (.ishl, 1) := by decide +kernel
theorem dX8_preyOf_41 : decode cX8_preyOf 41 = .ok (.ior, 1) := by decide +kernel
theorem dX8_preyOf_42 : decode cX8_preyOf 42 = .ok (.istore_n 2, 1) := by decide +kernel
theorem dX8_preyOf_43 : decode cX8_preyOf 43 = .ok (.iinc 3 1, 3) := by decide +kernel
theorem dX8_preyOf_46 : decode cX8_preyOf 46 = .ok (.goto (-37), 3) := by decide +kernel
theorem dX8_preyOf_49 : decode cX8_preyOf 49 = .ok (.iload_n 2, 1) := by decide +kernel
theorem dX8_preyOf_50 : decode cX8_preyOf 50 = .ok (.ireturn, 1) := by decide +kernel
theorem dX8_isKittenWaiting_0 : decode cX8_isKittenWaiting 0 = .ok (.aload_n 0, 1) := by decide +kernel
theorem dX8_isKittenWaiting_1 : decode cX8_isKittenWaiting 1 = .ok (.getfield 10, 3) := by decide +kernel
theorem dX8_isKittenWaiting_4 : decode cX8_isKittenWaiting 4 = .ok (.getfield 166, 3) := by decide +kernel
theorem dX8_isKittenWaiting_7 : decode cX8_isKittenWaiting 7 = .ok (.getfield 251, 3) := by decide +kernel
theorem dX8_isKittenWaiting_10 : decode cX8_isKittenWaiting 10 = .ok (.ireturn, 1) := by decide +kernel
theorem dX8_votesFor_0 : decode cX8_votesFor 0 = .ok (.aload_n 0, 1) := by decide +kernel
theorem dX8_votesFor_1 : decode cX8_votesFor 1 = .ok (.getfield 10, 3) := by decide +kernel
theorem dX8_votesFor_4 : decode cX8_votesFor 4 = .ok (.getfield 166, 3) := by decide +kernel
theorem dX8_votesFor_7 : decode cX8_votesFor 7 = .ok (.iconst 1, 1) := by decide +kernel
theorem dX8_votesFor_8 : decode cX8_votesFor 8 = .ok (.invokevirtual 254, 3) := by decide +kernel
theorem dX8_votesFor_11 : decode cX8_votesFor 11 = .ok (.ireturn, 1) := by decide +kernel
theorem dX8_votesAgainst_0 : decode cX8_votesAgainst 0 = .ok (.aload_n 0, 1) := by decide +kernel
theorem dX8_votesAgainst_1 : decode cX8_votesAgainst 1 = .ok (.getfield 10, 3) := by decide +kernel
theorem dX8_votesAgainst_4 : decode cX8_votesAgainst 4 = .ok (.getfield 166, 3) := by decide +kernel
theorem dX8_votesAgainst_7 : decode cX8_votesAgainst 7 = .ok (.iconst 2, 1) := by decide +kernel
theorem dX8_votesAgainst_8 : decode cX8_votesAgainst 8 = .ok (.invokevirtual 254, 3) := by decide +kernel
theorem dX8_votesAgainst_11 : decode cX8_votesAgainst 11 = .ok (.ireturn, 1) := by decide +kernel
theorem dX8_hasVoted_0 : decode cX8_hasVoted 0 = .ok (.aload_n 0, 1) := by decide +kernel
theorem dX8_hasVoted_1 : decode cX8_hasVoted 1 = .ok (.iload_n 1, 1) := by decide +kernel
theorem dX8_hasVoted_2 : decode cX8_hasVoted 2 = .ok (.invokevirtual 128, 3) := by decide +kernel
theorem dX8_hasVoted_5 : decode cX8_hasVoted 5 = .ok (.aload_n 0, 1) := by decide +kernel
theorem dX8_hasVoted_6 : decode cX8_hasVoted 6 = .ok (.getfield 10, 3) := by decide +kernel
theorem dX8_hasVoted_9 : decode cX8_hasVoted 9 = .ok (.getfield 166, 3) := by decide +kernel
theorem dX8_hasVoted_12 : decode cX8_hasVoted 12 = .ok (.getfield 257, 3) := by decide +kernel
theorem dX8_hasVoted_15 : decode cX8_hasVoted 15 = .ok (.iload_n 1, 1) := by decide +kernel
theorem dX8_hasVoted_16 : decode cX8_hasVoted 16 = .ok (.iaload, 1) := by decide +kernel
theorem dX8_hasVoted_17 : decode cX8_hasVoted 17 = .ok (.ifCond .eq 7, 3) := by decide +kernel
theorem dX8_hasVoted_20 : decode cX8_hasVoted 20 = .ok (.iconst 1, 1) := by decide +kernel
theorem dX8_hasVoted_21 : decode cX8_hasVoted 21 = .ok (.goto 4, 3) := by decide +kernel
theorem dX8_hasVoted_24 : decode cX8_hasVoted 24 = .ok (.iconst 0, 1) := by decide +kernel
theorem dX8_hasVoted_25 : decode cX8_hasVoted 25 = .ok (.ireturn, 1) := by decide +kernel
theorem dX8_choirOf_0 : decode cX8_choirOf 0 = .ok (.aload_n 0, 1) := by decide +kernel
theorem dX8_choirOf_1 : decode cX8_choirOf 1 = .ok (.iload_n 1, 1) := by decide +kernel
theorem dX8_choirOf_2 : decode cX8_choirOf 2 = .ok (.invokevirtual 128, 3) := by decide +kernel
theorem dX8_choirOf_5 : decode cX8_choirOf 5 = .ok (.aload_n 0, 1) := by decide +kernel
theorem dX8_choirOf_6 : decode cX8_choirOf 6 = .ok (.getfield 10, 3) := by decide +kernel
theorem dX8_choirOf_9 : decode cX8_choirOf 9 = .ok (.iload_n 1, 1) := by decide +kernel
theorem dX8_choirOf_10 : decode cX8_choirOf 10 = .ok (.invokevirtual 260, 3) := by decide +kernel
theorem dX8_choirOf_13 : decode cX8_choirOf 13 = .ok (.ireturn, 1) := by decide +kernel
theorem dX8_choirCount_0 : decode cX8_choirCount 0 = .ok (.iconst 0, 1) := by decide +kernel
theorem dX8_choirCount_1 : decode cX8_choirCount 1 = .ok (.istore_n 1, 1) := by decide +kernel
theorem dX8_choirCount_2 : decode cX8_choirCount 2 = .ok (.iconst 0, 1) := by decide +kernel
theorem dX8_choirCount_3 : decode cX8_choirCount 3 = .ok (.istore_n 2, 1) := by decide +kernel
theorem dX8_choirCount_4 : decode cX8_choirCount 4 = .ok (.iconst 0, 1) := by decide +kernel
theorem dX8_choirCount_5 : decode cX8_choirCount 5 = .ok (.istore_n 3, 1) := by decide +kernel
