theorem dX0_init_0 : decode cX0_init 0 = .ok (.aload_n 0, 1) := by decide +kernel
theorem dX0_init_1 : decode cX0_init 1 = .ok (.invokespecial 1, 3) := by decide +kernel
theorem dX0_init_4 : decode cX0_init 4 = .ok (.aload_n 0, 1) := by decide +kernel
theorem dX0_init_5 : decode cX0_init 5 = .ok (.iconst 0, 1) := by decide +kernel
theorem dX0_init_6 : decode cX0_init 6 = .ok (.putfield 7, 3) := by decide +kernel
theorem dX0_init_9 : decode cX0_init 9 = .ok (.aload_n 0, 1) := by decide +kernel
theorem dX0_init_10 : decode cX0_init 10 = .ok (.iload_n 1, 1) := by decide +kernel
theorem dX0_init_11 : decode cX0_init 11 = .ok (.putfield 13, 3) := by decide +kernel
theorem dX0_init_14 : decode cX0_init 14 = .ok (.aload_n 0, 1) := by decide +kernel
theorem dX0_init_15 : decode cX0_init 15 = .ok (.iload_n 2, 1) := by decide +kernel
theorem dX0_init_16 : decode cX0_init 16 = .ok (.putfield 16, 3) := by decide +kernel
theorem dX0_init_19 : decode cX0_init 19 = .ok (.aload_n 0, 1) := by decide +kernel
theorem dX0_init_20 : decode cX0_init 20 = .ok (.iload_n 3, 1) := by decide +kernel
theorem dX0_init_21 : decode cX0_init 21 = .ok (.putfield 19, 3) := by decide +kernel
theorem dX0_init_24 : decode cX0_init 24 = .ok (.aload_n 0, 1) := by decide +kernel
theorem dX0_init_25 : decode cX0_init 25 = .ok (.iload 4, 2) := by decide +kernel
theorem dX0_init_27 : decode cX0_init 27 = .ok (.putfield 22, 3) := by decide +kernel
theorem dX0_init_30 : decode cX0_init 30 = .ok (.return_, 1) := by decide +kernel
theorem dX1_meets_0 : decode cX1_meets 0 = .ok (.aload_n 0, 1) := by decide +kernel
theorem dX1_meets_1 : decode cX1_meets 1 = .ok (.getfield 13, 3) := by decide +kernel
theorem dX1_meets_4 : decode cX1_meets 4 = .ok (.iload_n 2, 1) := by decide +kernel
theorem dX1_meets_5 : decode cX1_meets 5 = .ok (.if_icmp .ge 15, 3) := by decide +kernel
theorem dX1_meets_8 : decode cX1_meets 8 = .ok (.iload_n 1, 1) := by decide +kernel
theorem dX1_meets_9 : decode cX1_meets 9 = .ok (.aload_n 0, 1) := by decide +kernel
theorem dX1_meets_10 : decode cX1_meets 10 = .ok (.getfield 17, 3) := by decide +kernel
theorem dX1_meets_13 : decode cX1_meets 13 = .ok (.if_icmp .ge 7, 3) := by decide +kernel
theorem dX1_meets_16 : decode cX1_meets 16 = .ok (.iconst 1, 1) := by decide +kernel
theorem dX1_meets_17 : decode cX1_meets 17 = .ok (.goto 4, 3) := by decide +kernel
theorem dX1_meets_20 : decode cX1_meets 20 = .ok (.iconst 0, 1) := by decide +kernel
theorem dX1_meets_21 : decode cX1_meets 21 = .ok (.ireturn, 1) := by decide +kernel
theorem dX2_init_0 : decode cX2_init 0 = .ok (.aload_n 0, 1) := by decide +kernel
theorem dX2_init_1 : decode cX2_init 1 = .ok (.invokespecial 1, 3) := by decide +kernel
theorem dX2_init_4 : decode cX2_init 4 = .ok (.aload_n 0, 1) := by decide +kernel
theorem dX2_init_5 : decode cX2_init 5 = .ok (.iconst 0, 1) := by decide +kernel
theorem dX2_init_6 : decode cX2_init 6 = .ok (.putfield 7, 3) := by decide +kernel
theorem dX2_init_9 : decode cX2_init 9 = .ok (.aload_n 0, 1) := by decide +kernel
theorem dX2_init_10 : decode cX2_init 10 = .ok (.iconst 0, 1) := by decide +kernel
theorem dX2_init_11 : decode cX2_init 11 = .ok (.putfield 13, 3) := by decide +kernel
theorem dX2_init_14 : decode cX2_init 14 = .ok (.aload_n 0, 1) := by decide +kernel
theorem dX2_init_15 : decode cX2_init 15 = .ok (.iload_n 1, 1) := by decide +kernel
theorem dX2_init_16 : decode cX2_init 16 = .ok (.putfield 17, 3) := by decide +kernel
theorem dX2_init_19 : decode cX2_init 19 = .ok (.aload_n 0, 1) := by decide +kernel
theorem dX2_init_20 : decode cX2_init 20 = .ok (.aload_n 2, 1) := by decide +kernel
theorem dX2_init_21 : decode cX2_init 21 = .ok (.putfield 20, 3) := by decide +kernel
theorem dX2_init_24 : decode cX2_init 24 = .ok (.aload_n 0, 1) := by decide +kernel
theorem dX2_init_25 : decode cX2_init 25 = .ok (.aload_n 3, 1) := by decide +kernel
theorem dX2_init_26 : decode cX2_init 26 = .ok (.putfield 24, 3) := by decide +kernel
theorem dX2_init_29 : decode cX2_init 29 = .ok (.aload_n 0, 1) := by decide +kernel
theorem dX2_init_30 : decode cX2_init 30 = .ok (.iload 4, 2) := by decide +kernel
theorem dX2_init_32 : decode cX2_init 32 = .ok (.putfield 28, 3) := by decide +kernel
theorem dX2_init_35 : decode cX2_init 35 = .ok (.aload_n 0, 1) := by decide +kernel
theorem dX2_init_36 : decode cX2_init 36 = .ok (.iload 5, 2) := by decide +kernel
theorem dX2_init_38 : decode cX2_init 38 = .ok (.putfield 31, 3) := by decide +kernel
theorem dX2_init_41 : decode cX2_init 41 = .ok (.return_, 1) := by decide +kernel
theorem dX2_worth_0 : decode cX2_worth 0 = .ok (.aload_n 0, 1) := by decide +kernel
theorem dX2_worth_1 : decode cX2_worth 1 = .ok (.getfield 20, 3) := by decide +kernel
theorem dX2_worth_4 : decode cX2_worth 4 = .ok (.getfield 34, 3) := by decide +kernel
theorem dX2_worth_7 : decode cX2_worth 7 = .ok (.aload_n 0, 1) := by decide +kernel
theorem dX2_worth_8 : decode cX2_worth 8 = .ok (.getfield 31, 3) := by decide +kernel
theorem dX2_worth_11 : decode cX2_worth 11 = .ok (.aload_n 0, 1) := by decide +kernel
theorem dX2_worth_12 : decode cX2_worth 12 = .ok (.getfield 28, 3) := by decide +kernel
theorem dX2_worth_15 : decode cX2_worth 15 = .ok (.isub, 1) := by decide +kernel
theorem dX2_worth_16 : decode cX2_worth 16 = .ok (.imul, 1) := by decide +kernel
theorem dX2_worth_17 : decode cX2_worth 17 = .ok (.ireturn, 1) := by decide +kernel
theorem dX2_isEarlierThan_0 : decode cX2_isEarlierThan 0 = .ok (.aload_n 0, 1) := by decide +kernel
theorem dX2_isEarlierThan_1 : decode cX2_isEarlierThan 1 = .ok (.getfield 28, 3) := by decide +kernel
theorem dX2_isEarlierThan_4 : decode cX2_isEarlierThan 4 = .ok (.aload_n 1, 1) := by decide +kernel
theorem dX2_isEarlierThan_5 : decode cX2_isEarlierThan 5 = .ok (.getfield 28, 3) := by decide +kernel
theorem dX2_isEarlierThan_8 : decode cX2_isEarlierThan 8 = .ok (.if_icmp .ne 22, 3) := by decide +kernel
theorem dX2_isEarlierThan_11 : decode cX2_isEarlierThan 11 = .ok (.aload_n 0, 1) := by decide +kernel
theorem dX2_isEarlierThan_12 : decode cX2_isEarlierThan 12 = .ok (.getfield 17, 3) := by decide +kernel
theorem dX2_isEarlierThan_15 : decode cX2_isEarlierThan 15 = .ok (.aload_n 1, 1) := by decide +kernel
theorem dX2_isEarlierThan_16 : decode cX2_isEarlierThan 16 = .ok (.getfield 17, 3) := by decide +kernel
theorem dX2_isEarlierThan_19 : decode cX2_isEarlierThan 19 = .ok (.if_icmp .ge 7, 3) := by decide +kernel
theorem dX2_isEarlierThan_22 : decode cX2_isEarlierThan 22 = .ok (.iconst 1, 1) := by decide +kernel
theorem dX2_isEarlierThan_23 : decode cX2_isEarlierThan 23 = .ok (.goto 23, 3) := by decide +kernel
theorem dX2_isEarlierThan_26 : decode cX2_isEarlierThan 26 = .ok (.iconst 0, 1) := by decide +kernel
theorem dX2_isEarlierThan_27 : decode cX2_isEarlierThan 27 = .ok (.goto 19, 3) := by decide +kernel
theorem dX2_isEarlierThan_30 : decode cX2_isEarlierThan 30 = .ok (.aload_n 0, 1) := by decide +kernel
theorem dX2_isEarlierThan_31 : decode cX2_isEarlierThan 31 = .ok (.getfield 28, 3) := by decide +kernel
theorem dX2_isEarlierThan_34 : decode cX2_isEarlierThan 34 = .ok (.aload_n 1, 1) := by decide +kernel
theorem dX2_isEarlierThan_35 : decode cX2_isEarlierThan 35 = .ok (.getfield 28, 3) := by decide +kernel
theorem dX2_isEarlierThan_38 : decode cX2_isEarlierThan 38 = .ok (.if_icmp .ge 7, 3) := by decide +kernel
theorem dX2_isEarlierThan_41 : decode cX2_isEarlierThan 41 = .ok (.iconst 1, 1) := by decide +kernel
theorem dX2_isEarlierThan_42 : decode cX2_isEarlierThan 42 = .ok (.goto 4, 3) := by decide +kernel
theorem dX2_isEarlierThan_45 : decode cX2_isEarlierThan 45 = .ok (.iconst 0, 1) := by decide +kernel
theorem dX2_isEarlierThan_46 : decode cX2_isEarlierThan 46 = .ok (.ireturn, 1) := by decide +kernel
theorem dX2_bringDown_0 : decode cX2_bringDown 0 = .ok (.aload_n 0, 1) := by decide +kernel
theorem dX2_bringDown_1 : decode cX2_bringDown 1 = .ok (.getfield 24, 3) := by decide +kernel
theorem dX2_bringDown_4 : decode cX2_bringDown 4 = .ok (.getfield 39, 3) := by decide +kernel
theorem dX2_bringDown_7 : decode cX2_bringDown 7 = .ok (.aload_n 0, 1) := by decide +kernel
theorem dX2_bringDown_8 : decode cX2_bringDown 8 = .ok (.getfield 20, 3) := by decide +kernel
theorem dX2_bringDown_11 : decode cX2_bringDown 11 = .ok (.getfield 44, 3) := by decide +kernel
theorem dX2_bringDown_14 : decode cX2_bringDown 14 = .ok (.invokestatic 47, 3) := by decide +kernel
theorem dX2_bringDown_17 : decode cX2_bringDown 17 = .ok (.istore_n 1, 1) := by decide +kernel
theorem dX2_bringDown_18 : decode cX2_bringDown 18 = .ok (.aload_n 0, 1) := by decide +kernel
theorem dX2_bringDown_19 : decode cX2_bringDown 19 = .ok (.getfield 20, 3) := by decide +kernel
theorem dX2_bringDown_22 : decode cX2_bringDown 22 = .ok (.dup, 1) := by decide +kernel
theorem dX2_bringDown_23 : decode cX2_bringDown 23 = .ok (.getfield 44, 3) := by decide +kernel
theorem dX2_bringDown_26 : decode cX2_bringDown 26 = .ok (.iload_n 1, 1) := by decide +kernel
theorem dX2_bringDown_27 : decode cX2_bringDown 27 = .ok (.isub, 1) := by decide +kernel
theorem dX2_bringDown_28 : decode cX2_bringDown 28 = .ok (.putfield 44, 3) := by decide +kernel
theorem dX2_bringDown_31 : decode cX2_bringDown 31 = .ok (.aload_n 0, 1) := by decide +kernel
theorem dX2_bringDown_32 : decode cX2_bringDown 32 = .ok (.getfield 20, 3) := by decide +kernel
theorem dX2_bringDown_35 : decode cX2_bringDown 35 = .ok (.dup, 1) := by decide +kernel
theorem dX2_bringDown_36 : decode cX2_bringDown 36 = .ok (.getfield 53, 3) := by decide +kernel
theorem dX2_bringDown_39 : decode cX2_bringDown 39 = .ok (.iload_n 1, 1) := by decide +kernel
theorem dX2_bringDown_40 : decode cX2_bringDown 40 = .ok (.iadd, 1) := by decide +kernel
theorem dX2_bringDown_41 : decode cX2_bringDown 41 = .ok (.putfield 53, 3) := by decide +kernel
theorem dX2_bringDown_44 : decode cX2_bringDown 44 = .ok (.aload_n 0, 1) := by decide +kernel
theorem dX2_bringDown_45 : decode cX2_bringDown 45 = .ok (.getfield 24, 3) := by decide +kernel
theorem dX2_bringDown_48 : decode cX2_bringDown 48 = .ok (.dup, 1) := by decide +kernel
theorem dX2_bringDown_49 : decode cX2_bringDown 49 = .ok (.getfield 56, 3) := by decide +kernel
theorem dX2_bringDown_52 : decode cX2_bringDown 52 = .ok (.iload_n 1, 1) := by decide +kernel
theorem dX2_bringDown_53 : decode cX2_bringDown 53 = .ok (.iadd, 1) := by decide +kernel
theorem dX2_bringDown_54 : decode cX2_bringDown 54 = .ok (.putfield 56, 3) := by decide +kernel
theorem dX2_bringDown_57 : decode cX2_bringDown 57 = .ok (.aload_n 0, 1) := by decide +kernel
theorem dX2_bringDown_58 : decode cX2_bringDown 58 = .ok (.dup, 1) := by decide +kernel
theorem dX2_bringDown_59 : decode cX2_bringDown 59 = .ok (.getfield 13, 3) := by decide +kernel
theorem dX2_bringDown_62 : decode cX2_bringDown 62 = .ok (.iload_n 1, 1) := by decide +kernel
theorem dX2_bringDown_63 : decode cX2_bringDown 63 = .ok (.iadd, 1) := by decide +kernel
theorem dX2_bringDown_64 : decode cX2_bringDown 64 = .ok (.putfield 13, 3) := by decide +kernel
theorem dX2_bringDown_67 : decode cX2_bringDown 67 = .ok (.iload_n 1, 1) := by decide +kernel
theorem dX2_bringDown_68 : decode cX2_bringDown 68 = .ok (.ireturn, 1) := by decide +kernel
theorem dX3_init_0 : decode cX3_init 0 = .ok (.aload_n 0, 1) := by decide +kernel
theorem dX3_init_1 : decode cX3_init 1 = .ok (.invokespecial 1, 3) := by decide +kernel
theorem dX3_init_4 : decode cX3_init 4 = .ok (.aload_n 0, 1) := by decide +kernel
theorem dX3_init_5 : decode cX3_init 5 = .ok (.iconst 0, 1) := by decide +kernel
theorem dX3_init_6 : decode cX3_init 6 = .ok (.putfield 7, 3) := by decide +kernel
theorem dX3_init_9 : decode cX3_init 9 = .ok (.aload_n 0, 1) := by decide +kernel
theorem dX3_init_10 : decode cX3_init 10 = .ok (.iconst 0, 1) := by decide +kernel
theorem dX3_init_11 : decode cX3_init 11 = .ok (.putfield 13, 3) := by decide +kernel
theorem dX3_init_14 : decode cX3_init 14 = .ok (.aload_n 0, 1) := by decide +kernel
theorem dX3_init_15 : decode cX3_init 15 = .ok (.iconst 0, 1) := by decide +kernel
theorem dX3_init_16 : decode cX3_init 16 = .ok (.putfield 16, 3) := by decide +kernel
theorem dX3_init_19 : decode cX3_init 19 = .ok (.aload_n 0, 1) := by decide +kernel
theorem dX3_init_20 : decode cX3_init 20 = .ok (.iload_n 1, 1) := by decide +kernel
theorem dX3_init_21 : decode cX3_init 21 = .ok (.putfield 19, 3) := by decide +kernel
theorem dX3_init_24 : decode cX3_init 24 = .ok (.aload_n 0, 1) := by decide +kernel
theorem dX3_init_25 : decode cX3_init 25 = .ok (.iload_n 2, 1) := by decide +kernel
theorem dX3_init_26 : decode cX3_init 26 = .ok (.putfield 22, 3) := by decide +kernel
theorem dX3_init_29 : decode cX3_init 29 = .ok (.aload_n 0, 1) := by decide +kernel
theorem dX3_init_30 : decode cX3_init 30 = .ok (.iload_n 3, 1) := by decide +kernel
theorem dX3_init_31 : decode cX3_init 31 = .ok (.putfield 25, 3) := by decide +kernel
theorem dX3_init_34 : decode cX3_init 34 = .ok (.aload_n 0, 1) := by decide +kernel
theorem dX3_init_35 : decode cX3_init 35 = .ok (.iload 4, 2) := by decide +kernel
theorem dX3_init_37 : decode cX3_init 37 = .ok (.putfield 28, 3) := by decide +kernel
theorem dX3_init_40 : decode cX3_init 40 = .ok (.aload_n 0, 1) := by decide +kernel
theorem dX3_init_41 : decode cX3_init 41 = .ok (.iload 5, 2) := by decide +kernel
theorem dX3_init_43 : decode cX3_init 43 = .ok (.putfield 31, 3) := by decide +kernel
theorem dX3_init_46 : decode cX3_init 46 = .ok (.return_, 1) := by decide +kernel
theorem dX3_gather_0 : decode cX3_gather 0 = .ok (.aload_n 0, 1) := by decide +kernel
theorem dX3_gather_1 : decode cX3_gather 1 = .ok (.getfield 28, 3) := by decide +kernel
theorem dX3_gather_4 : decode cX3_gather 4 = .ok (.aload_n 0, 1) := by decide +kernel
theorem dX3_gather_5 : decode cX3_gather 5 = .ok (.getfield 31, 3) := by decide +kernel
theorem dX3_gather_8 : decode cX3_gather 8 = .ok (.aload_n 0, 1) := by decide +kernel
theorem dX3_gather_9 : decode cX3_gather 9 = .ok (.getfield 7, 3) := by decide +kernel
theorem dX3_gather_12 : decode cX3_gather 12 = .ok (.isub, 1) := by decide +kernel
theorem dX3_gather_13 : decode cX3_gather 13 = .ok (.invokestatic 34, 3) := by decide +kernel
theorem dX3_gather_16 : decode cX3_gather 16 = .ok (.istore_n 1, 1) := by decide +kernel
theorem dX3_gather_17 : decode cX3_gather 17 = .ok (.aload_n 0, 1) := by decide +kernel
theorem dX3_gather_18 : decode cX3_gather 18 = .ok (.dup, 1) := by decide +kernel
theorem dX3_gather_19 : decode cX3_gather 19 = .ok (.getfield 7, 3) := by decide +kernel
theorem dX3_gather_22 : decode cX3_gather 22 = .ok (.iload_n 1, 1) := by decide +kernel
theorem dX3_gather_23 : decode cX3_gather 23 = .ok (.iadd, 1) := by decide +kernel
theorem dX3_gather_24 : decode cX3_gather 24 = .ok (.putfield 7, 3) := by decide +kernel
theorem dX3_gather_27 : decode cX3_gather 27 = .ok (.aload_n 0, 1) := by decide +kernel
theorem dX3_gather_28 : decode cX3_gather 28 = .ok (.dup, 1) := by decide +kernel
theorem dX3_gather_29 : decode cX3_gather 29 = .ok (.getfield 13, 3) := by decide +kernel
theorem dX3_gather_32 : decode cX3_gather 32 = .ok (.aload_n 0, 1) := by decide +kernel
theorem dX3_gather_33 : decode cX3_gather 33 = .ok (.getfield 28, 3) := by decide +kernel
theorem dX3_gather_36 : decode cX3_gather 36 = .ok (.iload_n 1, 1) := by decide +kernel
theorem dX3_gather_37 : decode cX3_gather 37 = .ok (.isub, 1) := by decide +kernel
theorem dX3_gather_38 : decode cX3_gather 38 = .ok (.iadd, 1) := by decide +kernel
theorem dX3_gather_39 : decode cX3_gather 39 = .ok (.putfield 13, 3) := by decide +kernel
theorem dX3_gather_42 : decode cX3_gather 42 = .ok (.return_, 1) := by decide +kernel
theorem dX4_init_0 : decode cX4_init 0 = .ok (.aload_n 0, 1) := by decide +kernel
theorem dX4_init_1 : decode cX4_init 1 = .ok (.invokespecial 3, 3) := by decide +kernel
theorem dX4_init_4 : decode cX4_init 4 = .ok (.aload_n 0, 1) := by decide +kernel
theorem dX4_init_5 : decode cX4_init 5 = .ok (.bipush 16, 2) := by decide +kernel
theorem dX4_init_7 : decode cX4_init 7 = .ok (.newarray .int, 2) := by decide +kernel
theorem dX4_init_9 : decode cX4_init 9 = .ok (.putfield 9, 3) := by decide +kernel
theorem dX4_init_12 : decode cX4_init 12 = .ok (.aload_n 0, 1) := by decide +kernel
theorem dX4_init_13 : decode cX4_init 13 = .ok (.bipush 16, 2) := by decide +kernel
theorem dX4_init_15 : decode cX4_init 15 = .ok (.newarray .int, 2) := by decide +kernel
theorem dX4_init_17 : decode cX4_init 17 = .ok (.putfield 15, 3) := by decide +kernel
theorem dX4_init_20 : decode cX4_init 20 = .ok (.return_, 1) := by decide +kernel
set_option maxRecDepth 20000 in
theorem ggX4_weightOf_X5_contains : GoodIn wsX4_weightOf wsX5_contains := goodIn_r _ [4] (by decide +kernel) (by decide +kernel)
set_option maxRecDepth 20000 in
theorem gX4_weightOf_X5_contains_n18 : GoodIn wsX4_weightOf (wsX5_contains) := ggX4_weightOf_X5_contains
theorem dX4_weightOf_0 : decode cX4_weightOf 0 = .ok (.iconst 0, 1) := by decide +kernel
theorem dX4_weightOf_1 : decode cX4_weightOf 1 = .ok (.istore_n 2, 1) := by decide +kernel
theorem dX4_weightOf_2 : decode cX4_weightOf 2 = .ok (.iconst 0, 1) := by decide +kernel
theorem dX4_weightOf_3 : decode cX4_weightOf 3 = .ok (.istore_n 3, 1) := by decide +kernel
theorem dX4_weightOf_4 : decode cX4_weightOf 4 = .ok (.iload_n 3, 1) := by decide +kernel
theorem dX4_weightOf_5 : decode cX4_weightOf 5 = .ok (.aload_n 0, 1) := by decide +kernel
theorem dX4_weightOf_6 : decode cX4_weightOf 6 = .ok (.getfield 9, 3) := by decide +kernel
theorem dX4_weightOf_9 : decode cX4_weightOf 9 = .ok (.arraylength, 1) := by decide +kernel
theorem dX4_weightOf_10 : decode cX4_weightOf 10 = .ok (.if_icmp .ge 26, 3) := by decide +kernel
theorem dX4_weightOf_13 : decode cX4_weightOf 13 = .ok (.iload_n 1, 1) := by decide +kernel
theorem dX4_weightOf_14 : decode cX4_weightOf 14 = .ok (.iload_n 3, 1) := by decide +kernel
theorem dX4_weightOf_15 : decode cX4_weightOf 15 = .ok (.invokestatic 18, 3) := by decide +kernel
theorem dX4_weightOf_18 : decode cX4_weightOf 18 = .ok (.ifCond .eq 12, 3) := by decide +kernel
theorem dX4_weightOf_21 : decode cX4_weightOf 21 = .ok (.iload_n 2, 1) := by decide +kernel
theorem dX4_weightOf_22 : decode cX4_weightOf 22 = .ok (.aload_n 0, 1) := by decide +kernel
theorem dX4_weightOf_23 : decode cX4_weightOf 23 = .ok (.getfield 9, 3) := by decide +kernel
theorem dX4_weightOf_26 : decode cX4_weightOf 26 = .ok (.iload_n 3, 1) := by decide +kernel
theorem dX4_weightOf_27 : decode cX4_weightOf 27 = .ok (.iaload, 1) := by decide +kernel
theorem dX4_weightOf_28 : decode cX4_weightOf 28 = .ok (.iadd, 1) := by decide +kernel
theorem dX4_weightOf_29 : decode cX4_weightOf 29 = .ok (.istore_n 2, 1) := by decide +kernel
theorem dX4_weightOf_30 : decode cX4_weightOf 30 = .ok (.iinc 3 1, 3) := by decide +kernel
theorem dX4_weightOf_33 : decode cX4_weightOf 33 = .ok (.goto (-29), 3) := by decide +kernel
theorem dX4_weightOf_36 : decode cX4_weightOf 36 = .ok (.iload_n 2, 1) := by decide +kernel
theorem dX4_weightOf_37 : decode cX4_weightOf 37 = .ok (.ireturn, 1) := by decide +kernel
set_option maxRecDepth 20000 in
theorem ggX4_offer_X4_isBetter : GoodIn wsX4_offer wsX4_isBetter := goodIn_r _ [7, 2, 1, 8, 9, 10, 11, 12, 13, 14, 15, 16, 17, 18] (by decide +kernel) (by decide +kernel)
set_option maxRecDepth 20000 in
theorem gX4_offer_X4_isBetter : GoodIn wsX4_offer (wsV RX4 22 RX4 yX4_isBetter wsX4_isBetter) := goodIn_app (goodIn_of _ (by decide +kernel)) ggX4_offer_X4_isBetter
theorem dX4_offer_0 : decode cX4_offer 0 = .ok (.aload_n 0, 1) := by decide +kernel
theorem dX4_offer_1 : decode cX4_offer 1 = .ok (.iload_n 1, 1) := by decide +kernel
theorem dX4_offer_2 : decode cX4_offer 2 = .ok (.iload_n 2, 1) := by decide +kernel
theorem dX4_offer_3 : decode cX4_offer 3 = .ok (.invokevirtual 22, 3) := by decide +kernel
theorem dX4_offer_6 : decode cX4_offer 6 = .ok (.ifCond .eq 13, 3) := by decide +kernel
theorem dX4_offer_9 : decode cX4_offer 9 = .ok (.aload_n 0, 1) := by decide +kernel
theorem dX4_offer_10 : decode cX4_offer 10 = .ok (.iload_n 1, 1) := by decide +kernel
theorem dX4_offer_11 : decode cX4_offer 11 = .ok (.putfield 25, 3) := by decide +kernel
theorem dX4_offer_14 : decode cX4_offer 14 = .ok (.aload_n 0, 1) := by decide +kernel
theorem dX4_offer_15 : decode cX4_offer 15 = .ok (.iload_n 2, 1) := by decide +kernel
theorem dX4_offer_16 : decode cX4_offer 16 = .ok (.putfield 29, 3) := by decide +kernel
theorem dX4_offer_19 : decode cX4_offer 19 = .ok (.return_, 1) := by decide +kernel
set_option maxRecDepth 20000 in
theorem ggX4_isBetter_J6_bitCount_0f7a4 : GoodIn wsX4_isBetter wsJ6_bitCount_0f7a4 := goodIn_r _ [6, 7, 8, 9] (by decide +kernel) (by decide +kernel)
set_option maxRecDepth 20000 in
theorem gX4_isBetter_J6_bitCount_0f7a4 : GoodIn wsX4_isBetter (va_wsS RX4 32 yJ6_bitCount_0f7a4 wsJ6_bitCount_0f7a4) := goodIn_app (goodIn_of _ (by decide +kernel)) ggX4_isBetter_J6_bitCount_0f7a4
theorem dX4_isBetter_0 : decode cX4_isBetter 0 = .ok (.iload_n 2, 1) := by decide +kernel
theorem dX4_isBetter_1 : decode cX4_isBetter 1 = .ok (.aload_n 0, 1) := by decide +kernel
theorem dX4_isBetter_2 : decode cX4_isBetter 2 = .ok (.getfield 29, 3) := by decide +kernel
theorem dX4_isBetter_5 : decode cX4_isBetter 5 = .ok (.if_icmp .eq 17, 3) := by decide +kernel
theorem dX4_isBetter_8 : decode cX4_isBetter 8 = .ok (.iload_n 2, 1) := by decide +kernel
theorem dX4_isBetter_9 : decode cX4_isBetter 9 = .ok (.aload_n 0, 1) := by decide +kernel
theorem dX4_isBetter_10 : decode cX4_isBetter 10 = .ok (.getfield 29, 3) := by decide +kernel
theorem dX4_isBetter_13 : decode cX4_isBetter 13 = .ok (.if_icmp .le 7, 3) := by decide +kernel
theorem dX4_isBetter_16 : decode cX4_isBetter 16 = .ok (.iconst 1, 1) := by decide +kernel
theorem dX4_isBetter_17 : decode cX4_isBetter 17 = .ok (.goto 4, 3) := by decide +kernel
theorem dX4_isBetter_20 : decode cX4_isBetter 20 = .ok (.iconst 0, 1) := by decide +kernel
theorem dX4_isBetter_21 : decode cX4_isBetter 21 = .ok (.ireturn, 1) := by decide +kernel
theorem dX4_isBetter_22 : decode cX4_isBetter 22 = .ok (.iload_n 1, 1) := by decide +kernel
theorem dX4_isBetter_23 : decode cX4_isBetter 23 = .ok (.invokestatic 32, 3) := by decide +kernel
theorem dX4_isBetter_26 : decode cX4_isBetter 26 = .ok (.istore_n 3, 1) := by decide +kernel
theorem dX4_isBetter_27 : decode cX4_isBetter 27 = .ok (.aload_n 0, 1) := by decide +kernel
theorem dX4_isBetter_28 : decode cX4_isBetter 28 = .ok (.getfield 25, 3) := by decide +kernel
theorem dX4_isBetter_31 : decode cX4_isBetter 31 = .ok (.invokestatic 32, 3) := by decide +kernel
theorem dX4_isBetter_34 : decode cX4_isBetter 34 = .ok (.istore 4, 2) := by decide +kernel
theorem dX4_isBetter_36 : decode cX4_isBetter 36 = .ok (.iload_n 3, 1) := by decide +kernel
theorem dX4_isBetter_37 : decode cX4_isBetter 37 = .ok (.iload 4, 2) := by decide +kernel
theorem dX4_isBetter_39 : decode cX4_isBetter 39 = .ok (.if_icmp .ne 19, 3) := by decide +kernel
theorem dX4_isBetter_42 : decode cX4_isBetter 42 = .ok (.iload_n 1, 1) := by decide +kernel
theorem dX4_isBetter_43 : decode cX4_isBetter 43 = .ok (.aload_n 0, 1) := by decide +kernel
theorem dX4_isBetter_44 : decode cX4_isBetter 44 = .ok (.getfield 25, 3) := by decide +kernel
theorem dX4_isBetter_47 : decode cX4_isBetter 47 = .ok (.if_icmp .ge 7, 3) := by decide +kernel
theorem dX4_isBetter_50 : decode cX4_isBetter 50 = .ok (.iconst 1, 1) := by decide +kernel
theorem dX4_isBetter_51 : decode cX4_isBetter 51 = .ok (.goto 18, 3) := by decide +kernel
theorem dX4_isBetter_54 : decode cX4_isBetter 54 = .ok (.iconst 0, 1) := by decide +kernel
theorem dX4_isBetter_55 : decode cX4_isBetter 55 = .ok (.goto 14, 3) := by decide +kernel
theorem dX4_isBetter_58 : decode cX4_isBetter 58 = .ok (.iload_n 3, 1) := by decide +kernel
theorem dX4_isBetter_59 : decode cX4_isBetter 59 = .ok (.iload 4, 2) := by decide +kernel
theorem dX4_isBetter_61 : decode cX4_isBetter 61 = .ok (.if_icmp .ge 7, 3) := by decide +kernel
theorem dX4_isBetter_64 : decode cX4_isBetter 64 = .ok (.iconst 1, 1) := by decide +kernel
theorem dX4_isBetter_65 : decode cX4_isBetter 65 = .ok (.goto 4, 3) := by decide +kernel
theorem dX4_isBetter_68 : decode cX4_isBetter 68 = .ok (.iconst 0, 1) := by decide +kernel
theorem dX4_isBetter_69 : decode cX4_isBetter 69 = .ok (.ireturn, 1) := by decide +kernel
set_option maxRecDepth 20000 in
theorem ggX5_init_Jx4a65c_init_da8c8 : GoodIn wsX5_init wsJx4a65c_init_da8c8 := goodIn_r _ [19, 20, 21, 22, 23, 24, 25, 26, 27, 28, 29, 30, 31, 2, 3, 38, 39, 40] (by decide +kernel) (by decide +kernel)
set_option maxRecDepth 20000 in
theorem gX5_init_Jx4a65c_init_da8c8 : GoodIn wsX5_init (wsJx4a65c_init_da8c8) := ggX5_init_Jx4a65c_init_da8c8
set_option maxRecDepth 20000 in
theorem ggX5_init_X4_init : GoodIn wsX5_init wsX4_init := goodIn_r _ [33, 34, 2, 3, 35, 36, 37, 48, 49, 50, 51] (by decide +kernel) (by decide +kernel)
set_option maxRecDepth 20000 in
theorem gX5_init_X4_init_n27 : GoodIn wsX5_init (wsX4_init) := ggX5_init_X4_init
theorem dX5_init_0 : decode cX5_init 0 = .ok (.aload_n 0, 1) := by decide +kernel
theorem dX5_init_1 : decode cX5_init 1 = .ok (.invokespecial 1, 3) := by decide +kernel
theorem dX5_init_4 : decode cX5_init 4 = .ok (.aload_n 0, 1) := by decide +kernel
theorem dX5_init_5 : decode cX5_init 5 = .ok (.new 7, 3) := by decide +kernel
theorem dX5_init_8 : decode cX5_init 8 = .ok (.dup, 1) := by decide +kernel
theorem dX5_init_9 : decode cX5_init 9 = .ok (.invokespecial 9, 3) := by decide +kernel
theorem dX5_init_12 : decode cX5_init 12 = .ok (.putfield 10, 3) := by decide +kernel
theorem dX5_init_15 : decode cX5_init 15 = .ok (.aload_n 0, 1) := by decide +kernel
theorem dX5_init_16 : decode cX5_init 16 = .ok (.new 7, 3) := by decide +kernel
theorem dX5_init_19 : decode cX5_init 19 = .ok (.dup, 1) := by decide +kernel
theorem dX5_init_20 : decode cX5_init 20 = .ok (.invokespecial 9, 3) := by decide +kernel
theorem dX5_init_23 : decode cX5_init 23 = .ok (.putfield 16, 3) := by decide +kernel
theorem dX5_init_26 : decode cX5_init 26 = .ok (.aload_n 0, 1) := by decide +kernel
theorem dX5_init_27 : decode cX5_init 27 = .ok (.new 7, 3) := by decide +kernel
theorem dX5_init_30 : decode cX5_init 30 = .ok (.dup, 1) := by decide +kernel
theorem dX5_init_31 : decode cX5_init 31 = .ok (.invokespecial 9, 3) := by decide +kernel
theorem dX5_init_34 : decode cX5_init 34 = .ok (.putfield 19, 3) := by decide +kernel
theorem dX5_init_37 : decode cX5_init 37 = .ok (.aload_n 0, 1) := by decide +kernel
theorem dX5_init_38 : decode cX5_init 38 = .ok (.new 7, 3) := by decide +kernel
theorem dX5_init_41 : decode cX5_init 41 = .ok (.dup, 1) := by decide +kernel
theorem dX5_init_42 : decode cX5_init 42 = .ok (.invokespecial 9, 3) := by decide +kernel
theorem dX5_init_45 : decode cX5_init 45 = .ok (.putfield 22, 3) := by decide +kernel
theorem dX5_init_48 : decode cX5_init 48 = .ok (.aload_n 0, 1) := by decide +kernel
theorem dX5_init_49 : decode cX5_init 49 = .ok (.new 25, 3) := by decide +kernel
theorem dX5_init_52 : decode cX5_init 52 = .ok (.dup, 1) := by decide +kernel
theorem dX5_init_53 : decode cX5_init 53 = .ok (.invokespecial 27, 3) := by decide +kernel
theorem dX5_init_56 : decode cX5_init 56 = .ok (.putfield 28, 3) := by decide +kernel
theorem dX5_init_59 : decode cX5_init 59 = .ok (.aload_n 0, 1) := by decide +kernel
theorem dX5_init_60 : decode cX5_init 60 = .ok (.iconst 0, 1) := by decide +kernel
theorem dX5_init_61 : decode cX5_init 61 = .ok (.putfield 32, 3) := by decide +kernel
theorem dX5_init_64 : decode cX5_init 64 = .ok (.aload_n 0, 1) := by decide +kernel
theorem dX5_init_65 : decode cX5_init 65 = .ok (.iconst 5, 1) := by decide +kernel
theorem dX5_init_66 : decode cX5_init 66 = .ok (.putfield 36, 3) := by decide +kernel
theorem dX5_init_69 : decode cX5_init 69 = .ok (.return_, 1) := by decide +kernel
set_option maxRecDepth 20000 in
theorem ggX5_addAntenna_X5_isWithin : GoodIn wsX5_addAntenna wsX5_isWithin := goodIn_r _ [12] (by decide +kernel) (by decide +kernel)
set_option maxRecDepth 20000 in
theorem gX5_addAntenna_X5_isWithin : GoodIn wsX5_addAntenna (va_wsS RX5 39 yX5_isWithin wsX5_isWithin) := goodIn_app (goodIn_of _ (by decide +kernel)) ggX5_addAntenna_X5_isWithin
set_option maxRecDepth 20000 in
theorem ggX5_addAntenna_Jx4a65c_size_8abf5 : GoodIn wsX5_addAntenna wsJx4a65c_size_8abf5 := goodIn_r _ [17, 18, 96, 97, 98] (by decide +kernel) (by decide +kernel)
set_option maxRecDepth 20000 in
theorem gX5_addAntenna_Jx4a65c_size_8abf5 : GoodIn wsX5_addAntenna (wsV RX5 50 RJx4a65c yJx4a65c_size_8abf5 wsJx4a65c_size_8abf5) := goodIn_app (goodIn_of _ (by decide +kernel)) ggX5_addAntenna_Jx4a65c_size_8abf5
set_option maxRecDepth 20000 in
theorem ggX5_addAntenna_X0_init : GoodIn wsX5_addAntenna wsX0_init := goodIn_r _ [21, 22, 23, 24, 25, 26, 27, 28, 29, 91, 92, 93, 94, 95] (by decide +kernel) (by decide +kernel)
set_option maxRecDepth 20000 in
theorem gX5_addAntenna_X0_init : GoodIn wsX5_addAntenna (wsX0_init) := ggX5_addAntenna_X0_init
set_option maxRecDepth 20000 in
theorem ggX5_addAntenna_Jx4a65c_add_9ea2d : GoodIn wsX5_addAntenna wsJx4a65c_add_9ea2d := goodIn_r _ [33, 34, 35, 36, 18, 37, 38, 39, 16, 40, 41, 42, 43, 44, 45, 46, 47, 48, 49, 50, 51, 52, 53, 54, 55, 56, 57, 58, 59, 60, 61, 62, 63, 64, 65, 66, 67, 68, 69, 70, 71, 72, 73, 74, 75, 76, 77, 78, 79, 80, 81, 82, 83, 96, 97, 98] (by decide +kernel) (by decide +kernel)
set_option maxRecDepth 20000 in
theorem gX5_addAntenna_Jx4a65c_add_9ea2d : GoodIn wsX5_addAntenna (wsV RX5 64 RJx4a65c yJx4a65c_add_9ea2d wsJx4a65c_add_9ea2d) := goodIn_app (goodIn_of _ (by decide +kernel)) ggX5_addAntenna_Jx4a65c_add_9ea2d
theorem dX5_addAntenna_0 : decode cX5_addAntenna 0 = .ok (.iload_n 1, 1) := by decide +kernel
theorem dX5_addAntenna_1 : decode cX5_addAntenna 1 = .ok (.iconst 1, 1) := by decide +kernel
theorem dX5_addAntenna_2 : decode cX5_addAntenna 2 = .ok (.bipush 15, 2) := by decide +kernel
theorem dX5_addAntenna_4 : decode cX5_addAntenna 4 = .ok (.invokestatic 39, 3) := by decide +kernel
theorem dX5_addAntenna_7 : decode cX5_addAntenna 7 = .ok (.ifCond .eq 23, 3) := by decide +kernel
theorem dX5_addAntenna_10 : decode cX5_addAntenna 10 = .ok (.iload_n 2, 1) := by decide +kernel
theorem dX5_addAntenna_11 : decode cX5_addAntenna 11 = .ok (.iconst 0, 1) := by decide +kernel
theorem dX5_addAntenna_12 : decode cX5_addAntenna 12 = .ok (.bipush 30, 2) := by decide +kernel
theorem dX5_addAntenna_14 : decode cX5_addAntenna 14 = .ok (.invokestatic 39, 3) := by decide +kernel
theorem dX5_addAntenna_17 : decode cX5_addAntenna 17 = .ok (.ifCond .eq 13, 3) := by decide +kernel
theorem dX5_addAntenna_20 : decode cX5_addAntenna 20 = .ok (.iload_n 3, 1) := by decide +kernel
theorem dX5_addAntenna_21 : decode cX5_addAntenna 21 = .ok (.iconst 1, 1) := by decide +kernel
theorem dX5_addAntenna_22 : decode cX5_addAntenna 22 = .ok (.bipush 100, 2) := by decide +kernel
theorem dX5_addAntenna_24 : decode cX5_addAntenna 24 = .ok (.invokestatic 39, 3) := by decide +kernel
theorem dX5_addAntenna_27 : decode cX5_addAntenna 27 = .ok (.ifCond .ne 13, 3) := by decide +kernel
theorem dX5_addAntenna_30 : decode cX5_addAntenna 30 = .ok (.new 43, 3) := by decide +kernel
theorem dX5_addAntenna_33 : decode cX5_addAntenna 33 = .ok (.dup, 1) := by decide +kernel
theorem dX5_addAntenna_34 : decode cX5_addAntenna 34 = .ok (.ldc 45, 2) := by decide +kernel
theorem dX5_addAntenna_36 : decode cX5_addAntenna 36 = .ok (.invokespecial 47, 3) := by decide +kernel
theorem dX5_addAntenna_39 : decode cX5_addAntenna 39 = .ok (.athrow, 1) := by decide +kernel
theorem dX5_addAntenna_40 : decode cX5_addAntenna 40 = .ok (.aload_n 0, 1) := by decide +kernel
theorem dX5_addAntenna_41 : decode cX5_addAntenna 41 = .ok (.getfield 10, 3) := by decide +kernel
theorem dX5_addAntenna_44 : decode cX5_addAntenna 44 = .ok (.invokevirtual 50, 3) := by decide +kernel
theorem dX5_addAntenna_47 : decode cX5_addAntenna 47 = .ok (.istore 4, 2) := by decide +kernel
theorem dX5_addAntenna_49 : decode cX5_addAntenna 49 = .ok (.iload 4, 2) := by decide +kernel
theorem dX5_addAntenna_51 : decode cX5_addAntenna 51 = .ok (.iconst 5, 1) := by decide +kernel
theorem dX5_addAntenna_52 : decode cX5_addAntenna 52 = .ok (.if_icmp .lt 13, 3) := by decide +kernel
theorem dX5_addAntenna_55 : decode cX5_addAntenna 55 = .ok (.new 54, 3) := by decide +kernel
theorem dX5_addAntenna_58 : decode cX5_addAntenna 58 = .ok (.dup, 1) := by decide +kernel
theorem dX5_addAntenna_59 : decode cX5_addAntenna 59 = .ok (.ldc 56, 2) := by decide +kernel
theorem dX5_addAntenna_61 : decode cX5_addAntenna 61 = .ok (.invokespecial 58, 3) := by decide +kernel
theorem dX5_addAntenna_64 : decode cX5_addAntenna 64 = .ok (.athrow, 1) := by decide +kernel
theorem dX5_addAntenna_65 : decode cX5_addAntenna 65 = .ok (.aload_n 0, 1) := by decide +kernel
theorem dX5_addAntenna_66 : decode cX5_addAntenna 66 = .ok (.getfield 10, 3) := by decide +kernel
theorem dX5_addAntenna_69 : decode cX5_addAntenna 69 = .ok (.new 59, 3) := by decide +kernel
theorem dX5_addAntenna_72 : decode cX5_addAntenna 72 = .ok (.dup, 1) := by decide +kernel
theorem dX5_addAntenna_73 : decode cX5_addAntenna 73 = .ok (.iload 4, 2) := by decide +kernel
theorem dX5_addAntenna_75 : decode cX5_addAntenna 75 = .ok (.iload_n 1, 1) := by decide +kernel
theorem dX5_addAntenna_76 : decode cX5_addAntenna 76 = .ok (.iload_n 2, 1) := by decide +kernel
theorem dX5_addAntenna_77 : decode cX5_addAntenna 77 = .ok (.iload_n 3, 1) := by decide +kernel
theorem dX5_addAntenna_78 : decode cX5_addAntenna 78 = .ok (.invokespecial 61, 3) := by decide +kernel
theorem dX5_addAntenna_81 : decode cX5_addAntenna 81 = .ok (.invokevirtual 64, 3) := by decide +kernel
theorem dX5_addAntenna_84 : decode cX5_addAntenna 84 = .ok (.pop, 1) := by decide +kernel
theorem dX5_addAntenna_85 : decode cX5_addAntenna 85 = .ok (.iload 4, 2) := by decide +kernel
theorem dX5_addAntenna_87 : decode cX5_addAntenna 87 = .ok (.ireturn, 1) := by decide +kernel
set_option maxRecDepth 20000 in
theorem ggX5_addSatellite_X5_isWithin : GoodIn wsX5_addSatellite wsX5_isWithin := goodIn_r _ [13] (by decide +kernel) (by decide +kernel)
set_option maxRecDepth 20000 in
theorem gX5_addSatellite_X5_isWithin : GoodIn wsX5_addSatellite (va_wsS RX5 39 yX5_isWithin wsX5_isWithin) := goodIn_app (goodIn_of _ (by decide +kernel)) ggX5_addSatellite_X5_isWithin
set_option maxRecDepth 20000 in
theorem ggX5_addSatellite_Jx4a65c_size_8abf5 : GoodIn wsX5_addSatellite wsJx4a65c_size_8abf5 := goodIn_r _ [18, 19, 103, 104, 105] (by decide +kernel) (by decide +kernel)
set_option maxRecDepth 20000 in
theorem gX5_addSatellite_Jx4a65c_size_8abf5 : GoodIn wsX5_addSatellite (wsV RX5 50 RJx4a65c yJx4a65c_size_8abf5 wsJx4a65c_size_8abf5) := goodIn_app (goodIn_of _ (by decide +kernel)) ggX5_addSatellite_Jx4a65c_size_8abf5
set_option maxRecDepth 20000 in
theorem ggX5_addSatellite_X3_init : GoodIn wsX5_addSatellite wsX3_init := goodIn_r _ [22, 23, 24, 25, 26, 27, 28, 29, 30, 31, 32, 33, 95, 96, 97, 98, 99, 100, 101, 102] (by decide +kernel) (by decide +kernel)
set_option maxRecDepth 20000 in
theorem gX5_addSatellite_X3_init : GoodIn wsX5_addSatellite (wsX3_init) := ggX5_addSatellite_X3_init
set_option maxRecDepth 20000 in
theorem ggX5_addSatellite_Jx4a65c_add_9ea2d : GoodIn wsX5_addSatellite wsJx4a65c_add_9ea2d := goodIn_r _ [37, 38, 39, 40, 19, 41, 42, 43, 17, 44, 45, 46, 47, 48, 49, 50, 51, 52, 53, 54, 55, 56, 57, 58, 59, 60, 61, 62, 63, 64, 65, 66, 67, 68, 69, 70, 71, 72, 73, 74, 75, 76, 77, 78, 79, 80, 81, 82, 83, 84, 85, 86, 87, 103, 104, 105] (by decide +kernel) (by decide +kernel)
set_option maxRecDepth 20000 in
theorem gX5_addSatellite_Jx4a65c_add_9ea2d : GoodIn wsX5_addSatellite (wsV RX5 64 RJx4a65c yJx4a65c_add_9ea2d wsJx4a65c_add_9ea2d) := goodIn_app (goodIn_of _ (by decide +kernel)) ggX5_addSatellite_Jx4a65c_add_9ea2d
theorem dX5_addSatellite_0 : decode cX5_addSatellite 0 = .ok (.iload_n 1, 1) := by decide +kernel
theorem dX5_addSatellite_1 : decode cX5_addSatellite 1 = .ok (.iconst 0, 1) := by decide +kernel
theorem dX5_addSatellite_2 : decode cX5_addSatellite 2 = .ok (.iconst 3, 1) := by decide +kernel
theorem dX5_addSatellite_3 : decode cX5_addSatellite 3 = .ok (.invokestatic 39, 3) := by decide +kernel
theorem dX5_addSatellite_6 : decode cX5_addSatellite 6 = .ok (.ifCond .eq 34, 3) := by decide +kernel
theorem dX5_addSatellite_9 : decode cX5_addSatellite 9 = .ok (.iload_n 2, 1) := by decide +kernel
theorem dX5_addSatellite_10 : decode cX5_addSatellite 10 = .ok (.iconst 1, 1) := by decide +kernel
theorem dX5_addSatellite_11 : decode cX5_addSatellite 11 = .ok (.bipush 9, 2) := by decide +kernel
theorem dX5_addSatellite_13 : decode cX5_addSatellite 13 = .ok (.invokestatic 39, 3) := by decide +kernel
theorem dX5_addSatellite_16 : decode cX5_addSatellite 16 = .ok (.ifCond .eq 24, 3) := by decide +kernel
theorem dX5_addSatellite_19 : decode cX5_addSatellite 19 = .ok (.iload_n 3, 1) := by decide +kernel
theorem dX5_addSatellite_20 : decode cX5_addSatellite 20 = .ok (.iconst 0, 1) := by decide +kernel
theorem dX5_addSatellite_21 : decode cX5_addSatellite 21 = .ok (.bipush 50, 2) := by decide +kernel
theorem dX5_addSatellite_23 : decode cX5_addSatellite 23 = .ok (.invokestatic 39, 3) := by decide +kernel
theorem dX5_addSatellite_26 : decode cX5_addSatellite 26 = .ok (.ifCond .eq 14, 3) := by decide +kernel
theorem dX5_addSatellite_29 : decode cX5_addSatellite 29 = .ok (.iload 4, 2) := by decide +kernel
theorem dX5_addSatellite_31 : decode cX5_addSatellite 31 = .ok (.iconst 1, 1) := by decide +kernel
theorem dX5_addSatellite_32 : decode cX5_addSatellite 32 = .ok (.ldc 68, 2) := by decide +kernel
theorem dX5_addSatellite_34 : decode cX5_addSatellite 34 = .ok (.invokestatic 39, 3) := by decide +kernel
theorem dX5_addSatellite_37 : decode cX5_addSatellite 37 = .ok (.ifCond .ne 13, 3) := by decide +kernel
theorem dX5_addSatellite_40 : decode cX5_addSatellite 40 = .ok (.new 43, 3) := by decide +kernel
theorem dX5_addSatellite_43 : decode cX5_addSatellite 43 = .ok (.dup, 1) := by decide +kernel
theorem dX5_addSatellite_44 : decode cX5_addSatellite 44 = .ok (.ldc 69, 2) := by decide +kernel
theorem dX5_addSatellite_46 : decode cX5_addSatellite 46 = .ok (.invokespecial 47, 3) := by decide +kernel
theorem dX5_addSatellite_49 : decode cX5_addSatellite 49 = .ok (.athrow, 1) := by decide +kernel
theorem dX5_addSatellite_50 : decode cX5_addSatellite 50 = .ok (.aload_n 0, 1) := by decide +kernel
theorem dX5_addSatellite_51 : decode cX5_addSatellite 51 = .ok (.getfield 16, 3) := by decide +kernel
theorem dX5_addSatellite_54 : decode cX5_addSatellite 54 = .ok (.invokevirtual 50, 3) := by decide +kernel
theorem dX5_addSatellite_57 : decode cX5_addSatellite 57 = .ok (.istore 5, 2) := by decide +kernel
theorem dX5_addSatellite_59 : decode cX5_addSatellite 59 = .ok (.iload 5, 2) := by decide +kernel
theorem dX5_addSatellite_61 : decode cX5_addSatellite 61 = .ok (.bipush 8, 2) := by decide +kernel
theorem dX5_addSatellite_63 : decode cX5_addSatellite 63 = .ok (.if_icmp .lt 13, 3) := by decide +kernel
theorem dX5_addSatellite_66 : decode cX5_addSatellite 66 = .ok (.new 54, 3) := by decide +kernel
theorem dX5_addSatellite_69 : decode cX5_addSatellite 69 = .ok (.dup, 1) := by decide +kernel
theorem dX5_addSatellite_70 : decode cX5_addSatellite 70 = .ok (.ldc 71, 2) := by decide +kernel
theorem dX5_addSatellite_72 : decode cX5_addSatellite 72 = .ok (.invokespecial 58, 3) := by decide +kernel
theorem dX5_addSatellite_75 : decode cX5_addSatellite 75 = .ok (.athrow, 1) := by decide +kernel
theorem dX5_addSatellite_76 : decode cX5_addSatellite 76 = .ok (.aload_n 0, 1) := by decide +kernel
theorem dX5_addSatellite_77 : decode cX5_addSatellite 77 = .ok (.getfield 16, 3) := by decide +kernel
theorem dX5_addSatellite_80 : decode cX5_addSatellite 80 = .ok (.new 73, 3) := by decide +kernel
theorem dX5_addSatellite_83 : decode cX5_addSatellite 83 = .ok (.dup, 1) := by decide +kernel
theorem dX5_addSatellite_84 : decode cX5_addSatellite 84 = .ok (.iload 5, 2) := by decide +kernel
theorem dX5_addSatellite_86 : decode cX5_addSatellite 86 = .ok (.iload_n 1, 1) := by decide +kernel
theorem dX5_addSatellite_87 : decode cX5_addSatellite 87 = .ok (.iload_n 2, 1) := by decide +kernel
theorem dX5_addSatellite_88 : decode cX5_addSatellite 88 = .ok (.iload_n 3, 1) := by decide +kernel
theorem dX5_addSatellite_89 : decode cX5_addSatellite 89 = .ok (.iload 4, 2) := by decide +kernel
theorem dX5_addSatellite_91 : decode cX5_addSatellite 91 = .ok (.invokespecial 75, 3) := by decide +kernel
theorem dX5_addSatellite_94 : decode cX5_addSatellite 94 = .ok (.invokevirtual 64, 3) := by decide +kernel
theorem dX5_addSatellite_97 : decode cX5_addSatellite 97 = .ok (.pop, 1) := by decide +kernel
theorem dX5_addSatellite_98 : decode cX5_addSatellite 98 = .ok (.iload 5, 2) := by decide +kernel
theorem dX5_addSatellite_100 : decode cX5_addSatellite 100 = .ok (.ireturn, 1) := by decide +kernel
set_option maxRecDepth 20000 in
theorem ggX5_addPass_X5_satelliteAt : GoodIn wsX5_addPass wsX5_satelliteAt := goodIn_ca (goodIn_r _ [15, 16, 17, 18, 19, 20, 21, 22, 23, 24, 25, 26, 27, 28, 29, 30, 31, 32, 33, 34, 35, 36, 37, 38, 39, 40, 41, 42, 136, 137, 138, 139, 140, 141, 142, 150, 151, 152] (by decide +kernel) (by decide +kernel)) (goodIn_sub (fun _ h => List.mem_cons_of_mem _ (List.mem_append_right _ h)) (by decide +kernel))
set_option maxRecDepth 20000 in
theorem gX5_addPass_X5_satelliteAt : GoodIn wsX5_addPass (wsV RX5 78 RX5 yX5_satelliteAt wsX5_satelliteAt) := goodIn_app (goodIn_of _ (by decide +kernel)) ggX5_addPass_X5_satelliteAt
set_option maxRecDepth 20000 in
theorem ggX5_addPass_X5_antennaAt : GoodIn wsX5_addPass wsX5_antennaAt := goodIn_ca (goodIn_r _ [46, 16, 17, 47, 48, 20, 21, 22, 23, 24, 25, 26, 27, 28, 29, 30, 31, 32, 33, 34, 35, 36, 37, 38, 39, 40, 41, 42, 136, 137, 138, 139, 140, 141, 142, 150, 151, 152] (by decide +kernel) (by decide +kernel)) (goodIn_sub (fun _ h => List.mem_cons_of_mem _ (List.mem_append_right _ h)) (by decide +kernel))
set_option maxRecDepth 20000 in
theorem gX5_addPass_X5_antennaAt : GoodIn wsX5_addPass (wsV RX5 82 RX5 yX5_antennaAt wsX5_antennaAt) := goodIn_app (goodIn_of _ (by decide +kernel)) ggX5_addPass_X5_antennaAt
set_option maxRecDepth 20000 in
theorem ggX5_addPass_X5_checkSpan : GoodIn wsX5_addPass wsX5_checkSpan := goodIn_ca (goodIn_r _ [52, 1, 2, 53, 136, 137, 138, 139, 140, 141, 142] (by decide +kernel) (by decide +kernel)) (goodIn_sub (fun _ h => List.mem_cons_of_mem _ (List.mem_append_left _ (List.mem_append_left _ (List.mem_append_right _ h)))) (by decide +kernel))
set_option maxRecDepth 20000 in
theorem gX5_addPass_X5_checkSpan : GoodIn wsX5_addPass (wsV RX5 86 RX5 yX5_checkSpan wsX5_checkSpan) := goodIn_app (goodIn_of _ (by decide +kernel)) ggX5_addPass_X5_checkSpan
set_option maxRecDepth 20000 in
theorem ggX5_addPass_X5_contains : GoodIn wsX5_addPass wsX5_contains := goodIn_r _ [56] (by decide +kernel) (by decide +kernel)
set_option maxRecDepth 20000 in
theorem gX5_addPass_X5_contains : GoodIn wsX5_addPass (va_wsS RX5 98 yX5_contains wsX5_contains) := goodIn_app (goodIn_of _ (by decide +kernel)) ggX5_addPass_X5_contains
set_option maxRecDepth 20000 in
theorem ggX5_addPass_Jx4a65c_size_8abf5 : GoodIn wsX5_addPass wsJx4a65c_size_8abf5 := goodIn_r _ [24, 25, 150, 151, 152] (by decide +kernel) (by decide +kernel)
set_option maxRecDepth 20000 in
theorem gX5_addPass_Jx4a65c_size_8abf5 : GoodIn wsX5_addPass (wsV RX5 50 RJx4a65c yJx4a65c_size_8abf5 wsJx4a65c_size_8abf5) := goodIn_app (goodIn_of _ (by decide +kernel)) ggX5_addPass_Jx4a65c_size_8abf5
set_option maxRecDepth 20000 in
theorem ggX5_addPass_X2_init : GoodIn wsX5_addPass wsX2_init := goodIn_r _ [59, 60, 61, 62, 63, 64, 65, 66, 67, 68, 69, 143, 144, 145, 146, 147, 148, 149] (by decide +kernel) (by decide +kernel)
set_option maxRecDepth 20000 in
theorem gX5_addPass_X2_init : GoodIn wsX5_addPass (wsX2_init) := ggX5_addPass_X2_init
set_option maxRecDepth 20000 in
theorem ggX5_addPass_Jx4a65c_add_9ea2d : GoodIn wsX5_addPass wsJx4a65c_add_9ea2d := goodIn_r _ [73, 74, 75, 42, 25, 76, 77, 78, 23, 79, 80, 81, 82, 83, 84, 85, 86, 87, 88, 89, 90, 91, 92, 93, 94, 95, 96, 97, 98, 99, 100, 101, 102, 103, 104, 105, 106, 107, 108, 109, 110, 111, 112, 113, 114, 115, 116, 117, 118, 119, 120, 121, 122, 150, 151, 152] (by decide +kernel) (by decide +kernel)
set_option maxRecDepth 20000 in
theorem gX5_addPass_Jx4a65c_add_9ea2d : GoodIn wsX5_addPass (wsV RX5 64 RJx4a65c yJx4a65c_add_9ea2d wsJx4a65c_add_9ea2d) := goodIn_app (goodIn_of _ (by decide +kernel)) ggX5_addPass_Jx4a65c_add_9ea2d
theorem dX5_addPass_0 : decode cX5_addPass 0 = .ok (.aload_n 0, 1) := by decide +kernel
theorem dX5_addPass_1 : decode cX5_addPass 1 = .ok (.iload_n 1, 1) := by decide +kernel
theorem dX5_addPass_2 : decode cX5_addPass 2 = .ok (.invokevirtual 78, 3) := by decide +kernel
theorem dX5_addPass_5 : decode cX5_addPass 5 = .ok (.astore 5, 2) := by decide +kernel
theorem dX5_addPass_7 : decode cX5_addPass 7 = .ok (.aload_n 0, 1) := by decide +kernel
theorem dX5_addPass_8 : decode cX5_addPass 8 = .ok (.iload_n 2, 1) := by decide +kernel
theorem dX5_addPass_9 : decode cX5_addPass 9 = .ok (.invokevirtual 82, 3) := by decide +kernel
theorem dX5_addPass_12 : decode cX5_addPass 12 = .ok (.astore 6, 2) := by decide +kernel
theorem dX5_addPass_14 : decode cX5_addPass 14 = .ok (.aload_n 0, 1) := by decide +kernel
theorem dX5_addPass_15 : decode cX5_addPass 15 = .ok (.iload_n 3, 1) := by decide +kernel
theorem dX5_addPass_16 : decode cX5_addPass 16 = .ok (.iload 4, 2) := by decide +kernel
theorem dX5_addPass_18 : decode cX5_addPass 18 = .ok (.invokevirtual 86, 3) := by decide +kernel
theorem dX5_addPass_21 : decode cX5_addPass 21 = .ok (.iload 4, 2) := by decide +kernel
theorem dX5_addPass_23 : decode cX5_addPass 23 = .ok (.iload_n 3, 1) := by decide +kernel
theorem dX5_addPass_24 : decode cX5_addPass 24 = .ok (.isub, 1) := by decide +kernel
theorem dX5_addPass_25 : decode cX5_addPass 25 = .ok (.sipush 600, 3) := by decide +kernel
theorem dX5_addPass_28 : decode cX5_addPass 28 = .ok (.if_icmp .le 13, 3) := by decide +kernel
theorem dX5_addPass_31 : decode cX5_addPass 31 = .ok (.new 43, 3) := by decide +kernel
theorem dX5_addPass_34 : decode cX5_addPass 34 = .ok (.dup, 1) := by decide +kernel
theorem dX5_addPass_35 : decode cX5_addPass 35 = .ok (.ldc 90, 2) := by decide +kernel
theorem dX5_addPass_37 : decode cX5_addPass 37 = .ok (.invokespecial 47, 3) := by decide +kernel
theorem dX5_addPass_40 : decode cX5_addPass 40 = .ok (.athrow, 1) := by decide +kernel
theorem dX5_addPass_41 : decode cX5_addPass 41 = .ok (.aload 6, 2) := by decide +kernel
theorem dX5_addPass_43 : decode cX5_addPass 43 = .ok (.getfield 92, 3) := by decide +kernel
theorem dX5_addPass_46 : decode cX5_addPass 46 = .ok (.aload 5, 2) := by decide +kernel
theorem dX5_addPass_48 : decode cX5_addPass 48 = .ok (.getfield 95, 3) := by decide +kernel
theorem dX5_addPass_51 : decode cX5_addPass 51 = .ok (.invokestatic 98, 3) := by decide +kernel
theorem dX5_addPass_54 : decode cX5_addPass 54 = .ok (.ifCond .ne 13, 3) := by decide +kernel
theorem dX5_addPass_57 : decode cX5_addPass 57 = .ok (.new 43, 3) := by decide +kernel
theorem dX5_addPass_60 : decode cX5_addPass 60 = .ok (.dup, 1) := by decide +kernel
theorem dX5_addPass_61 : decode cX5_addPass 61 = .ok (.ldc 102, 2) := by decide +kernel
theorem dX5_addPass_63 : decode cX5_addPass 63 = .ok (.invokespecial 47, 3) := by decide +kernel
theorem dX5_addPass_66 : decode cX5_addPass 66 = .ok (.athrow, 1) := by decide +kernel
theorem dX5_addPass_67 : decode cX5_addPass 67 = .ok (.aload_n 0, 1) := by decide +kernel
theorem dX5_addPass_68 : decode cX5_addPass 68 = .ok (.getfield 19, 3) := by decide +kernel
theorem dX5_addPass_71 : decode cX5_addPass 71 = .ok (.invokevirtual 50, 3) := by decide +kernel
theorem dX5_addPass_74 : decode cX5_addPass 74 = .ok (.istore 7, 2) := by decide +kernel
theorem dX5_addPass_76 : decode cX5_addPass 76 = .ok (.iload 7, 2) := by decide +kernel
theorem dX5_addPass_78 : decode cX5_addPass 78 = .ok (.bipush 16, 2) := by decide +kernel
theorem dX5_addPass_80 : decode cX5_addPass 80 = .ok (.if_icmp .lt 13, 3) := by decide +kernel
theorem dX5_addPass_83 : decode cX5_addPass 83 = .ok (.new 54, 3) := by decide +kernel
theorem dX5_addPass_86 : decode cX5_addPass 86 = .ok (.dup, 1) := by decide +kernel
theorem dX5_addPass_87 : decode cX5_addPass 87 = .ok (.ldc 104, 2) := by decide +kernel
theorem dX5_addPass_89 : decode cX5_addPass 89 = .ok (.invokespecial 58, 3) := by decide +kernel
theorem dX5_addPass_92 : decode cX5_addPass 92 = .ok (.athrow, 1) := by decide +kernel
theorem dX5_addPass_93 : decode cX5_addPass 93 = .ok (.aload_n 0, 1) := by decide +kernel
theorem dX5_addPass_94 : decode cX5_addPass 94 = .ok (.getfield 19, 3) := by decide +kernel
theorem dX5_addPass_97 : decode cX5_addPass 97 = .ok (.new 106, 3) := by decide +kernel
theorem dX5_addPass_100 : decode cX5_addPass 100 = .ok (.dup, 1) := by decide +kernel
theorem dX5_addPass_101 : decode cX5_addPass 101 = .ok (.iload 7, 2) := by decide +kernel
theorem dX5_addPass_103 : decode cX5_addPass 103 = .ok (.aload 5, 2) := by decide +kernel
theorem dX5_addPass_105 : decode cX5_addPass 105 = .ok (.aload 6, 2) := by decide +kernel
theorem dX5_addPass_107 : decode cX5_addPass 107 = .ok (.iload_n 3, 1) := by decide +kernel
theorem dX5_addPass_108 : decode cX5_addPass 108 = .ok (.iload 4, 2) := by decide +kernel
theorem dX5_addPass_110 : decode cX5_addPass 110 = .ok (.invokespecial 108, 3) := by decide +kernel
theorem dX5_addPass_113 : decode cX5_addPass 113 = .ok (.invokevirtual 64, 3) := by decide +kernel
theorem dX5_addPass_116 : decode cX5_addPass 116 = .ok (.pop, 1) := by decide +kernel
theorem dX5_addPass_117 : decode cX5_addPass 117 = .ok (.iload 7, 2) := by decide +kernel
theorem dX5_addPass_119 : decode cX5_addPass 119 = .ok (.ireturn, 1) := by decide +kernel
set_option maxRecDepth 20000 in
theorem ggX5_setHandover_X5_isWithin : GoodIn wsX5_setHandover wsX5_isWithin := goodIn_r _ [7] (by decide +kernel) (by decide +kernel)
set_option maxRecDepth 20000 in
theorem gX5_setHandover_X5_isWithin : GoodIn wsX5_setHandover (va_wsS RX5 39 yX5_isWithin wsX5_isWithin) := goodIn_app (goodIn_of _ (by decide +kernel)) ggX5_setHandover_X5_isWithin
theorem dX5_setHandover_0 : decode cX5_setHandover 0 = .ok (.iload_n 1, 1) := by decide +kernel
theorem dX5_setHandover_1 : decode cX5_setHandover 1 = .ok (.iconst 0, 1) := by decide +kernel
theorem dX5_setHandover_2 : decode cX5_setHandover 2 = .ok (.bipush 60, 2) := by decide +kernel
theorem dX5_setHandover_4 : decode cX5_setHandover 4 = .ok (.invokestatic 39, 3) := by decide +kernel
theorem dX5_setHandover_7 : decode cX5_setHandover 7 = .ok (.ifCond .ne 13, 3) := by decide +kernel
theorem dX5_setHandover_10 : decode cX5_setHandover 10 = .ok (.new 43, 3) := by decide +kernel
theorem dX5_setHandover_13 : decode cX5_setHandover 13 = .ok (.dup, 1) := by decide +kernel
theorem dX5_setHandover_14 : decode cX5_setHandover 14 = .ok (.ldc 122, 2) := by decide +kernel
theorem dX5_setHandover_16 : decode cX5_setHandover 16 = .ok (.invokespecial 47, 3) := by decide +kernel
theorem dX5_setHandover_19 : decode cX5_setHandover 19 = .ok (.athrow, 1) := by decide +kernel
theorem dX5_setHandover_20 : decode cX5_setHandover 20 = .ok (.aload_n 0, 1) := by decide +kernel
theorem dX5_setHandover_21 : decode cX5_setHandover 21 = .ok (.getfield 36, 3) := by decide +kernel
theorem dX5_setHandover_24 : decode cX5_setHandover 24 = .ok (.istore_n 2, 1) := by decide +kernel
theorem dX5_setHandover_25 : decode cX5_setHandover 25 = .ok (.aload_n 0, 1) := by decide +kernel
theorem dX5_setHandover_26 : decode cX5_setHandover 26 = .ok (.iload_n 1, 1) := by decide +kernel
theorem dX5_setHandover_27 : decode cX5_setHandover 27 = .ok (.putfield 36, 3) := by decide +kernel
theorem dX5_setHandover_30 : decode cX5_setHandover 30 = .ok (.iload_n 2, 1) := by decide +kernel
theorem dX5_setHandover_31 : decode cX5_setHandover 31 = .ok (.ireturn, 1) := by decide +kernel
set_option maxRecDepth 20000 in
theorem ggX5_count_Jx4a65c_size_8abf5 : GoodIn wsX5_count wsJx4a65c_size_8abf5 := goodIn_r _ [10, 11, 19, 20, 21] (by decide +kernel) (by decide +kernel)
set_option maxRecDepth 20000 in
theorem gX5_count_Jx4a65c_size_8abf5 : GoodIn wsX5_count (wsV RX5 50 RJx4a65c yJx4a65c_size_8abf5 wsJx4a65c_size_8abf5) := goodIn_app (goodIn_of _ (by decide +kernel)) ggX5_count_Jx4a65c_size_8abf5
theorem dX5_count_0 : decode cX5_count 0 = .ok (.iload_n 1, 1) := by decide +kernel
theorem dX5_count_1 : decode cX5_count 1 = .ok (.tableswitch 51 0 2 #[27, 35, 43], 27) := by decide +kernel
theorem dX5_count_28 : decode cX5_count 28 = .ok (.aload_n 0, 1) := by decide +kernel
theorem dX5_count_29 : decode cX5_count 29 = .ok (.getfield 10, 3) := by decide +kernel
theorem dX5_count_32 : decode cX5_count 32 = .ok (.invokevirtual 50, 3) := by decide +kernel