theorem dX6_isConflict_31 : decode cX6_isConflict 31 = .ok (.putfield 65, 3) := by decide +kernel
theorem dX6_isConflict_34 : decode cX6_isConflict 34 = .ok (.aload_n 0, 1) := by decide +kernel
theorem dX6_isConflict_35 : decode cX6_isConflict 35 = .ok (.getfield 65, 3) := by decide +kernel
theorem dX6_isConflict_38 : decode cX6_isConflict 38 = .ok (.ifCond .ne 16, 3) := by decide +kernel
theorem dX6_isConflict_41 : decode cX6_isConflict 41 = .ok (.aload_n 0, 1) := by decide +kernel
theorem dX6_isConflict_42 : decode cX6_isConflict 42 = .ok (.iload_n 1, 1) := by decide +kernel
theorem dX6_isConflict_43 : decode cX6_isConflict 43 = .ok (.iload_n 2, 1) := by decide +kernel
theorem dX6_isConflict_44 : decode cX6_isConflict 44 = .ok (.invokevirtual 134, 3) := by decide +kernel
theorem dX6_isConflict_47 : decode cX6_isConflict 47 = .ok (.ifCond .eq 7, 3) := by decide +kernel
theorem dX6_isConflict_50 : decode cX6_isConflict 50 = .ok (.iconst 1, 1) := by decide +kernel
theorem dX6_isConflict_51 : decode cX6_isConflict 51 = .ok (.goto 4, 3) := by decide +kernel
theorem dX6_isConflict_54 : decode cX6_isConflict 54 = .ok (.iconst 0, 1) := by decide +kernel
theorem dX6_isConflict_55 : decode cX6_isConflict 55 = .ok (.ireturn, 1) := by decide +kernel
set_option maxRecDepth 20000 in
theorem ggX6_canBeTaken_X6_has : GoodIn wsX6_canBeTaken wsX6_has := goodIn_r _ [8] (by decide +kernel) (by decide +kernel)
set_option maxRecDepth 20000 in
theorem gX6_canBeTaken_X6_has : GoodIn wsX6_canBeTaken (va_wsS RX6 96 yX6_has wsX6_has) := goodIn_app (goodIn_of _ (by decide +kernel)) ggX6_canBeTaken_X6_has
set_option maxRecDepth 20000 in
theorem ggX6_canBeTaken_X6_conflictsOf : GoodIn wsX6_canBeTaken wsX6_conflictsOf := goodIn_r _ [12, 13, 14, 15, 16, 7, 17, 18, 2, 19, 20, 21, 22, 23, 24, 25, 26, 35, 36, 37, 38, 39, 40, 41, 42, 43, 44, 45, 46, 47, 48, 49, 50, 51, 52, 53, 54, 55, 56, 57, 58, 59, 60] (by decide +kernel) (by decide +kernel)
set_option maxRecDepth 20000 in
theorem gX6_canBeTaken_X6_conflictsOf : GoodIn wsX6_canBeTaken (wsV RX6 137 RX6 yX6_conflictsOf wsX6_conflictsOf) := goodIn_app (goodIn_of _ (by decide +kernel)) ggX6_canBeTaken_X6_conflictsOf
set_option maxRecDepth 20000 in
theorem ggX6_canBeTaken_X6_isOutIn : GoodIn wsX6_canBeTaken wsX6_isOutIn := goodIn_r _ [30, 31, 18, 2, 19, 32, 33, 7, 34, 35, 36, 37, 38, 39, 40, 41, 42, 43, 44, 45, 46, 47, 48, 49, 50, 51, 52, 53, 54, 55, 56, 57, 58, 59, 60] (by decide +kernel) (by decide +kernel)
set_option maxRecDepth 20000 in
theorem gX6_canBeTaken_X6_isOutIn : GoodIn wsX6_canBeTaken (wsV RX6 110 RX6 yX6_isOutIn wsX6_isOutIn) := goodIn_app (goodIn_of _ (by decide +kernel)) ggX6_canBeTaken_X6_isOutIn
theorem dX6_canBeTaken_0 : decode cX6_canBeTaken 0 = .ok (.aload_n 0, 1) := by decide +kernel
theorem dX6_canBeTaken_1 : decode cX6_canBeTaken 1 = .ok (.getfield 107, 3) := by decide +kernel
theorem dX6_canBeTaken_4 : decode cX6_canBeTaken 4 = .ok (.iload_n 1, 1) := by decide +kernel
theorem dX6_canBeTaken_5 : decode cX6_canBeTaken 5 = .ok (.invokestatic 96, 3) := by decide +kernel
theorem dX6_canBeTaken_8 : decode cX6_canBeTaken 8 = .ok (.ifCond .ne 33, 3) := by decide +kernel
theorem dX6_canBeTaken_11 : decode cX6_canBeTaken 11 = .ok (.aload_n 0, 1) := by decide +kernel
theorem dX6_canBeTaken_12 : decode cX6_canBeTaken 12 = .ok (.getfield 56, 3) := by decide +kernel
theorem dX6_canBeTaken_15 : decode cX6_canBeTaken 15 = .ok (.iload_n 1, 1) := by decide +kernel
theorem dX6_canBeTaken_16 : decode cX6_canBeTaken 16 = .ok (.iaload, 1) := by decide +kernel
theorem dX6_canBeTaken_17 : decode cX6_canBeTaken 17 = .ok (.aload_n 0, 1) := by decide +kernel
theorem dX6_canBeTaken_18 : decode cX6_canBeTaken 18 = .ok (.getfield 93, 3) := by decide +kernel
theorem dX6_canBeTaken_21 : decode cX6_canBeTaken 21 = .ok (.if_icmp .lt 20, 3) := by decide +kernel
theorem dX6_canBeTaken_24 : decode cX6_canBeTaken 24 = .ok (.aload_n 0, 1) := by decide +kernel
theorem dX6_canBeTaken_25 : decode cX6_canBeTaken 25 = .ok (.iload_n 1, 1) := by decide +kernel
theorem dX6_canBeTaken_26 : decode cX6_canBeTaken 26 = .ok (.invokevirtual 137, 3) := by decide +kernel
theorem dX6_canBeTaken_29 : decode cX6_canBeTaken 29 = .ok (.aload_n 0, 1) := by decide +kernel
theorem dX6_canBeTaken_30 : decode cX6_canBeTaken 30 = .ok (.getfield 107, 3) := by decide +kernel
theorem dX6_canBeTaken_33 : decode cX6_canBeTaken 33 = .ok (.iand, 1) := by decide +kernel
theorem dX6_canBeTaken_34 : decode cX6_canBeTaken 34 = .ok (.ifCond .ne 7, 3) := by decide +kernel
theorem dX6_canBeTaken_37 : decode cX6_canBeTaken 37 = .ok (.iconst 1, 1) := by decide +kernel
theorem dX6_canBeTaken_38 : decode cX6_canBeTaken 38 = .ok (.goto 4, 3) := by decide +kernel
theorem dX6_canBeTaken_41 : decode cX6_canBeTaken 41 = .ok (.iconst 0, 1) := by decide +kernel
theorem dX6_canBeTaken_42 : decode cX6_canBeTaken 42 = .ok (.istore_n 2, 1) := by decide +kernel
theorem dX6_canBeTaken_43 : decode cX6_canBeTaken 43 = .ok (.iconst 0, 1) := by decide +kernel
theorem dX6_canBeTaken_44 : decode cX6_canBeTaken 44 = .ok (.istore_n 3, 1) := by decide +kernel
theorem dX6_canBeTaken_45 : decode cX6_canBeTaken 45 = .ok (.iload_n 3, 1) := by decide +kernel
theorem dX6_canBeTaken_46 : decode cX6_canBeTaken 46 = .ok (.aload_n 0, 1) := by decide +kernel
theorem dX6_canBeTaken_47 : decode cX6_canBeTaken 47 = .ok (.getfield 104, 3) := by decide +kernel
theorem dX6_canBeTaken_50 : decode cX6_canBeTaken 50 = .ok (.if_icmp .ge 28, 3) := by decide +kernel
theorem dX6_canBeTaken_53 : decode cX6_canBeTaken 53 = .ok (.iload_n 2, 1) := by decide +kernel
theorem dX6_canBeTaken_54 : decode cX6_canBeTaken 54 = .ok (.ifCond .eq 16, 3) := by decide +kernel
theorem dX6_canBeTaken_57 : decode cX6_canBeTaken 57 = .ok (.aload_n 0, 1) := by decide +kernel
theorem dX6_canBeTaken_58 : decode cX6_canBeTaken 58 = .ok (.iload_n 3, 1) := by decide +kernel
theorem dX6_canBeTaken_59 : decode cX6_canBeTaken 59 = .ok (.iload_n 1, 1) := by decide +kernel
theorem dX6_canBeTaken_60 : decode cX6_canBeTaken 60 = .ok (.invokevirtual 110, 3) := by decide +kernel
theorem dX6_canBeTaken_63 : decode cX6_canBeTaken 63 = .ok (.ifCond .ne 7, 3) := by decide +kernel
theorem dX6_canBeTaken_66 : decode cX6_canBeTaken 66 = .ok (.iconst 1, 1) := by decide +kernel
theorem dX6_canBeTaken_67 : decode cX6_canBeTaken 67 = .ok (.goto 4, 3) := by decide +kernel
theorem dX6_canBeTaken_70 : decode cX6_canBeTaken 70 = .ok (.iconst 0, 1) := by decide +kernel
theorem dX6_canBeTaken_71 : decode cX6_canBeTaken 71 = .ok (.istore_n 2, 1) := by decide +kernel
theorem dX6_canBeTaken_72 : decode cX6_canBeTaken 72 = .ok (.iinc 3 1, 3) := by decide +kernel
theorem dX6_canBeTaken_75 : decode cX6_canBeTaken 75 = .ok (.goto (-30), 3) := by decide +kernel
theorem dX6_canBeTaken_78 : decode cX6_canBeTaken 78 = .ok (.iload_n 2, 1) := by decide +kernel
theorem dX6_canBeTaken_79 : decode cX6_canBeTaken 79 = .ok (.ireturn, 1) := by decide +kernel
set_option maxRecDepth 20000 in
theorem ggX6_canTake_X6_isPass : GoodIn wsX6_canTake wsX6_isPass := goodIn_r _ [6, 7, 8, 9, 5, 10, 47, 48, 49, 50, 51, 52, 53, 54, 55, 56, 57, 58, 59, 60, 61, 62, 63, 64, 65, 66, 67, 68, 69, 70, 71, 72] (by decide +kernel) (by decide +kernel)
set_option maxRecDepth 20000 in
theorem gX6_canTake_X6_isPass : GoodIn wsX6_canTake (wsV RX6 128 RX6 yX6_isPass wsX6_isPass) := goodIn_app (goodIn_of _ (by decide +kernel)) ggX6_canTake_X6_isPass
set_option maxRecDepth 20000 in
theorem ggX6_canTake_X6_canBeTaken : GoodIn wsX6_canTake wsX6_canBeTaken := goodIn_r _ [14, 15, 16, 17, 18, 19, 20, 5, 21, 22, 23, 24, 25, 7, 26, 27, 28, 29, 30, 31, 32, 33, 34, 35, 36, 37, 38, 39, 40, 41, 42, 43, 44, 45, 46, 47, 48, 49, 50, 51, 52, 53, 54, 55, 56, 57, 58, 59, 60, 61, 62, 63, 64, 65, 66, 67, 68, 69, 70, 71, 72] (by decide +kernel) (by decide +kernel)
set_option maxRecDepth 20000 in
theorem gX6_canTake_X6_canBeTaken : GoodIn wsX6_canTake (wsV RX6 140 RX6 yX6_canBeTaken wsX6_canBeTaken) := goodIn_app (goodIn_of _ (by decide +kernel)) ggX6_canTake_X6_canBeTaken
theorem dX6_canTake_0 : decode cX6_canTake 0 = .ok (.aload_n 0, 1) := by decide +kernel
theorem dX6_canTake_1 : decode cX6_canTake 1 = .ok (.aload_n 0, 1) := by decide +kernel
theorem dX6_canTake_2 : decode cX6_canTake 2 = .ok (.iload_n 1, 1) := by decide +kernel
theorem dX6_canTake_3 : decode cX6_canTake 3 = .ok (.invokevirtual 128, 3) := by decide +kernel
theorem dX6_canTake_6 : decode cX6_canTake 6 = .ok (.ifCond .eq 7, 3) := by decide +kernel
theorem dX6_canTake_9 : decode cX6_canTake 9 = .ok (.iconst 0, 1) := by decide +kernel
theorem dX6_canTake_10 : decode cX6_canTake 10 = .ok (.goto 4, 3) := by decide +kernel
theorem dX6_canTake_13 : decode cX6_canTake 13 = .ok (.iconst 1, 1) := by decide +kernel
theorem dX6_canTake_14 : decode cX6_canTake 14 = .ok (.putfield 65, 3) := by decide +kernel
theorem dX6_canTake_17 : decode cX6_canTake 17 = .ok (.aload_n 0, 1) := by decide +kernel
theorem dX6_canTake_18 : decode cX6_canTake 18 = .ok (.getfield 65, 3) := by decide +kernel
theorem dX6_canTake_21 : decode cX6_canTake 21 = .ok (.ifCond .ne 15, 3) := by decide +kernel
theorem dX6_canTake_24 : decode cX6_canTake 24 = .ok (.aload_n 0, 1) := by decide +kernel
theorem dX6_canTake_25 : decode cX6_canTake 25 = .ok (.iload_n 1, 1) := by decide +kernel
theorem dX6_canTake_26 : decode cX6_canTake 26 = .ok (.invokevirtual 140, 3) := by decide +kernel
theorem dX6_canTake_29 : decode cX6_canTake 29 = .ok (.ifCond .eq 7, 3) := by decide +kernel
theorem dX6_canTake_32 : decode cX6_canTake 32 = .ok (.iconst 1, 1) := by decide +kernel
theorem dX6_canTake_33 : decode cX6_canTake 33 = .ok (.goto 4, 3) := by decide +kernel
theorem dX6_canTake_36 : decode cX6_canTake 36 = .ok (.iconst 0, 1) := by decide +kernel
theorem dX6_canTake_37 : decode cX6_canTake 37 = .ok (.ireturn, 1) := by decide +kernel
set_option maxRecDepth 20000 in
theorem ggX6_weightOfAll_X6_has : GoodIn wsX6_weightOfAll wsX6_has := goodIn_r _ [5] (by decide +kernel) (by decide +kernel)
set_option maxRecDepth 20000 in
theorem gX6_weightOfAll_X6_has : GoodIn wsX6_weightOfAll (va_wsS RX6 96 yX6_has wsX6_has) := goodIn_app (goodIn_of _ (by decide +kernel)) ggX6_weightOfAll_X6_has
set_option maxRecDepth 20000 in
theorem ggX6_weightOfAll_X6_weightOf : GoodIn wsX6_weightOfAll wsX6_weightOf := goodIn_r _ [9, 10, 11, 12, 13, 14, 15, 16, 17, 18, 19, 20, 21, 22, 23, 24, 25, 26, 27, 28, 29, 30, 31, 32, 33, 34, 35, 36, 37, 38, 39] (by decide +kernel) (by decide +kernel)
set_option maxRecDepth 20000 in
theorem gX6_weightOfAll_X6_weightOf : GoodIn wsX6_weightOfAll (wsV RX6 122 RX6 yX6_weightOf wsX6_weightOf) := goodIn_app (goodIn_of _ (by decide +kernel)) ggX6_weightOfAll_X6_weightOf
theorem dX6_weightOfAll_0 : decode cX6_weightOfAll 0 = .ok (.iconst 0, 1) := by decide +kernel
theorem dX6_weightOfAll_1 : decode cX6_weightOfAll 1 = .ok (.istore_n 2, 1) := by decide +kernel
theorem dX6_weightOfAll_2 : decode cX6_weightOfAll 2 = .ok (.iconst 0, 1) := by decide +kernel
theorem dX6_weightOfAll_3 : decode cX6_weightOfAll 3 = .ok (.istore_n 3, 1) := by decide +kernel
theorem dX6_weightOfAll_4 : decode cX6_weightOfAll 4 = .ok (.iload_n 3, 1) := by decide +kernel
theorem dX6_weightOfAll_5 : decode cX6_weightOfAll 5 = .ok (.aload_n 0, 1) := by decide +kernel
theorem dX6_weightOfAll_6 : decode cX6_weightOfAll 6 = .ok (.getfield 78, 3) := by decide +kernel
theorem dX6_weightOfAll_9 : decode cX6_weightOfAll 9 = .ok (.if_icmp .ge 29, 3) := by decide +kernel
theorem dX6_weightOfAll_12 : decode cX6_weightOfAll 12 = .ok (.iload_n 2, 1) := by decide +kernel
theorem dX6_weightOfAll_13 : decode cX6_weightOfAll 13 = .ok (.iload_n 1, 1) := by decide +kernel
theorem dX6_weightOfAll_14 : decode cX6_weightOfAll 14 = .ok (.iload_n 3, 1) := by decide +kernel
theorem dX6_weightOfAll_15 : decode cX6_weightOfAll 15 = .ok (.invokestatic 96, 3) := by decide +kernel
theorem dX6_weightOfAll_18 : decode cX6_weightOfAll 18 = .ok (.ifCond .eq 11, 3) := by decide +kernel
theorem dX6_weightOfAll_21 : decode cX6_weightOfAll 21 = .ok (.aload_n 0, 1) := by decide +kernel
theorem dX6_weightOfAll_22 : decode cX6_weightOfAll 22 = .ok (.iload_n 3, 1) := by decide +kernel
theorem dX6_weightOfAll_23 : decode cX6_weightOfAll 23 = .ok (.invokevirtual 122, 3) := by decide +kernel
theorem dX6_weightOfAll_26 : decode cX6_weightOfAll 26 = .ok (.goto 4, 3) := by decide +kernel
theorem dX6_weightOfAll_29 : decode cX6_weightOfAll 29 = .ok (.iconst 0, 1) := by decide +kernel
theorem dX6_weightOfAll_30 : decode cX6_weightOfAll 30 = .ok (.iadd, 1) := by decide +kernel
theorem dX6_weightOfAll_31 : decode cX6_weightOfAll 31 = .ok (.istore_n 2, 1) := by decide +kernel
theorem dX6_weightOfAll_32 : decode cX6_weightOfAll 32 = .ok (.iinc 3 1, 3) := by decide +kernel
theorem dX6_weightOfAll_35 : decode cX6_weightOfAll 35 = .ok (.goto (-31), 3) := by decide +kernel
theorem dX6_weightOfAll_38 : decode cX6_weightOfAll 38 = .ok (.iload_n 2, 1) := by decide +kernel
theorem dX6_weightOfAll_39 : decode cX6_weightOfAll 39 = .ok (.ireturn, 1) := by decide +kernel
set_option maxRecDepth 20000 in
theorem ggX6_best_X6_canBeTaken : GoodIn wsX6_best wsX6_canBeTaken := goodIn_r _ [8, 9, 10, 11, 12, 13, 14, 7, 15, 16, 17, 18, 19, 2, 20, 21, 22, 23, 24, 25, 26, 27, 28, 29, 30, 31, 32, 33, 34, 35, 36, 37, 38, 39, 40, 53, 54, 55, 56, 57, 58, 59, 60, 61, 62, 63, 64, 65, 66, 67, 68, 69, 70, 71, 72, 73, 74, 75, 76, 77, 78] (by decide +kernel) (by decide +kernel)
set_option maxRecDepth 20000 in
theorem gX6_best_X6_canBeTaken : GoodIn wsX6_best (wsV RX6 140 RX6 yX6_canBeTaken wsX6_canBeTaken) := goodIn_app (goodIn_of _ (by decide +kernel)) ggX6_best_X6_canBeTaken
set_option maxRecDepth 20000 in
theorem ggX6_best_X6_conflictsOf : GoodIn wsX6_best wsX6_conflictsOf := goodIn_r _ [19, 2, 20, 21, 22, 7, 23, 24, 10, 25, 26, 27, 28, 29, 30, 31, 32, 53, 54, 55, 56, 57, 58, 59, 60, 61, 62, 63, 64, 65, 66, 67, 68, 69, 70, 71, 72, 73, 74, 75, 76, 77, 78] (by decide +kernel) (by decide +kernel)
set_option maxRecDepth 20000 in
theorem gX6_best_X6_conflictsOf : GoodIn wsX6_best (wsV RX6 137 RX6 yX6_conflictsOf wsX6_conflictsOf) := goodIn_app (goodIn_of _ (by decide +kernel)) ggX6_best_X6_conflictsOf
set_option maxRecDepth 20000 in
theorem ggX6_best_X6_weightOf : GoodIn wsX6_best wsX6_weightOf := goodIn_r _ [44, 45, 27, 25, 10, 53, 54, 55, 56, 57, 58, 59, 60, 61, 62, 63, 64, 65, 66, 67, 68, 69, 70, 71, 72, 73, 74, 75, 76, 77, 78] (by decide +kernel) (by decide +kernel)
set_option maxRecDepth 20000 in
theorem gX6_best_X6_weightOf : GoodIn wsX6_best (wsV RX6 122 RX6 yX6_weightOf wsX6_weightOf) := goodIn_app (goodIn_of _ (by decide +kernel)) ggX6_best_X6_weightOf
set_option maxRecDepth 20000 in
theorem ggX6_best_X6_has : GoodIn wsX6_best wsX6_has := goodIn_r _ [15] (by decide +kernel) (by decide +kernel)
set_option maxRecDepth 20000 in
theorem gX6_best_X6_has : GoodIn wsX6_best (va_wsS RX6 96 yX6_has wsX6_has) := goodIn_app (goodIn_of _ (by decide +kernel)) ggX6_best_X6_has
set_option maxRecDepth 20000 in
theorem ggX6_best_J6_bitCount_0f7a4 : GoodIn wsX6_best wsJ6_bitCount_0f7a4 := goodIn_r _ [49, 50, 51, 52] (by decide +kernel) (by decide +kernel)
set_option maxRecDepth 20000 in
theorem gX6_best_J6_bitCount_0f7a4 : GoodIn wsX6_best (va_wsS RX6 143 yJ6_bitCount_0f7a4 wsJ6_bitCount_0f7a4) := goodIn_app (goodIn_of _ (by decide +kernel)) ggX6_best_J6_bitCount_0f7a4
theorem dX6_best_0 : decode cX6_best 0 = .ok (.aload_n 0, 1) := by decide +kernel
theorem dX6_best_1 : decode cX6_best 1 = .ok (.iconst 0, 1) := by decide +kernel
theorem dX6_best_2 : decode cX6_best 2 = .ok (.putfield 65, 3) := by decide +kernel
theorem dX6_best_5 : decode cX6_best 5 = .ok (.iconst 0, 1) := by decide +kernel
theorem dX6_best_6 : decode cX6_best 6 = .ok (.istore_n 1, 1) := by decide +kernel
theorem dX6_best_7 : decode cX6_best 7 = .ok (.aload_n 0, 1) := by decide +kernel
theorem dX6_best_8 : decode cX6_best 8 = .ok (.getfield 78, 3) := by decide +kernel
theorem dX6_best_11 : decode cX6_best 11 = .ok (.newarray .int, 2) := by decide +kernel
theorem dX6_best_13 : decode cX6_best 13 = .ok (.astore_n 2, 1) := by decide +kernel
theorem dX6_best_14 : decode cX6_best 14 = .ok (.aload_n 0, 1) := by decide +kernel
theorem dX6_best_15 : decode cX6_best 15 = .ok (.getfield 78, 3) := by decide +kernel
theorem dX6_best_18 : decode cX6_best 18 = .ok (.newarray .int, 2) := by decide +kernel
theorem dX6_best_20 : decode cX6_best 20 = .ok (.astore_n 3, 1) := by decide +kernel
theorem dX6_best_21 : decode cX6_best 21 = .ok (.iconst 0, 1) := by decide +kernel
theorem dX6_best_22 : decode cX6_best 22 = .ok (.istore 4, 2) := by decide +kernel
theorem dX6_best_24 : decode cX6_best 24 = .ok (.iload 4, 2) := by decide +kernel
theorem dX6_best_26 : decode cX6_best 26 = .ok (.aload_n 0, 1) := by decide +kernel
theorem dX6_best_27 : decode cX6_best 27 = .ok (.getfield 78, 3) := by decide +kernel
theorem dX6_best_30 : decode cX6_best 30 = .ok (.if_icmp .ge 45, 3) := by decide +kernel
theorem dX6_best_33 : decode cX6_best 33 = .ok (.aload_n 0, 1) := by decide +kernel
theorem dX6_best_34 : decode cX6_best 34 = .ok (.iload 4, 2) := by decide +kernel
theorem dX6_best_36 : decode cX6_best 36 = .ok (.invokevirtual 140, 3) := by decide +kernel
theorem dX6_best_39 : decode cX6_best 39 = .ok (.ifCond .eq 10, 3) := by decide +kernel
theorem dX6_best_42 : decode cX6_best 42 = .ok (.iload_n 1, 1) := by decide +kernel
theorem dX6_best_43 : decode cX6_best 43 = .ok (.iconst 1, 1) := by decide +kernel
theorem dX6_best_44 : decode cX6_best 44 = .ok (.iload 4, 2) := by decide +kernel
theorem dX6_best_46 : decode cX6_best 46 = .ok (.ishl, 1) := by decide +kernel
theorem dX6_best_47 : decode cX6_best 47 = .ok (.ior, 1) := by decide +kernel
theorem dX6_best_48 : decode cX6_best 48 = .ok (.istore_n 1, 1) := by decide +kernel
theorem dX6_best_49 : decode cX6_best 49 = .ok (.aload_n 2, 1) := by decide +kernel
theorem dX6_best_50 : decode cX6_best 50 = .ok (.iload 4, 2) := by decide +kernel
theorem dX6_best_52 : decode cX6_best 52 = .ok (.aload_n 0, 1) := by decide +kernel
theorem dX6_best_53 : decode cX6_best 53 = .ok (.iload 4, 2) := by decide +kernel
theorem dX6_best_55 : decode cX6_best 55 = .ok (.invokevirtual 137, 3) := by decide +kernel
theorem dX6_best_58 : decode cX6_best 58 = .ok (.iastore, 1) := by decide +kernel
theorem dX6_best_59 : decode cX6_best 59 = .ok (.aload_n 3, 1) := by decide +kernel
theorem dX6_best_60 : decode cX6_best 60 = .ok (.iload 4, 2) := by decide +kernel
theorem dX6_best_62 : decode cX6_best 62 = .ok (.aload_n 0, 1) := by decide +kernel
theorem dX6_best_63 : decode cX6_best 63 = .ok (.iload 4, 2) := by decide +kernel
theorem dX6_best_65 : decode cX6_best 65 = .ok (.invokevirtual 122, 3) := by decide +kernel
theorem dX6_best_68 : decode cX6_best 68 = .ok (.iastore, 1) := by decide +kernel
theorem dX6_best_69 : decode cX6_best 69 = .ok (.iinc 4 1, 3) := by decide +kernel
theorem dX6_best_72 : decode cX6_best 72 = .ok (.goto (-48), 3) := by decide +kernel
theorem dX6_best_75 : decode cX6_best 75 = .ok (.iconst 0, 1) := by decide +kernel
theorem dX6_best_76 : decode cX6_best 76 = .ok (.istore 4, 2) := by decide +kernel
theorem dX6_best_78 : decode cX6_best 78 = .ok (.iconst 0, 1) := by decide +kernel
theorem dX6_best_79 : decode cX6_best 79 = .ok (.istore 5, 2) := by decide +kernel
theorem dX6_best_81 : decode cX6_best 81 = .ok (.iload_n 1, 1) := by decide +kernel
theorem dX6_best_82 : decode cX6_best 82 = .ok (.istore 6, 2) := by decide +kernel
theorem dX6_best_84 : decode cX6_best 84 = .ok (.iload 6, 2) := by decide +kernel
theorem dX6_best_86 : decode cX6_best 86 = .ok (.ifCond .eq 125, 3) := by decide +kernel
theorem dX6_best_89 : decode cX6_best 89 = .ok (.iconst 0, 1) := by decide +kernel
theorem dX6_best_90 : decode cX6_best 90 = .ok (.istore 7, 2) := by decide +kernel
theorem dX6_best_92 : decode cX6_best 92 = .ok (.iconst 1, 1) := by decide +kernel
theorem dX6_best_93 : decode cX6_best 93 = .ok (.istore 8, 2) := by decide +kernel
theorem dX6_best_95 : decode cX6_best 95 = .ok (.iconst 0, 1) := by decide +kernel
theorem dX6_best_96 : decode cX6_best 96 = .ok (.istore 9, 2) := by decide +kernel
theorem dX6_best_98 : decode cX6_best 98 = .ok (.iload 9, 2) := by decide +kernel
theorem dX6_best_100 : decode cX6_best 100 = .ok (.aload_n 0, 1) := by decide +kernel
theorem dX6_best_101 : decode cX6_best 101 = .ok (.getfield 78, 3) := by decide +kernel
theorem dX6_best_104 : decode cX6_best 104 = .ok (.if_icmp .ge 53, 3) := by decide +kernel
theorem dX6_best_107 : decode cX6_best 107 = .ok (.iload 8, 2) := by decide +kernel
theorem dX6_best_109 : decode cX6_best 109 = .ok (.ifCond .eq 48, 3) := by decide +kernel
theorem dX6_best_112 : decode cX6_best 112 = .ok (.iload 6, 2) := by decide +kernel
theorem dX6_best_114 : decode cX6_best 114 = .ok (.iload 9, 2) := by decide +kernel
theorem dX6_best_116 : decode cX6_best 116 = .ok (.invokestatic 96, 3) := by decide +kernel
theorem dX6_best_119 : decode cX6_best 119 = .ok (.ifCond .ne 6, 3) := by decide +kernel
theorem dX6_best_122 : decode cX6_best 122 = .ok (.goto 29, 3) := by decide +kernel
theorem dX6_best_125 : decode cX6_best 125 = .ok (.aload_n 2, 1) := by decide +kernel
theorem dX6_best_126 : decode cX6_best 126 = .ok (.iload 9, 2) := by decide +kernel
theorem dX6_best_128 : decode cX6_best 128 = .ok (.iaload, 1) := by decide +kernel
theorem dX6_best_129 : decode cX6_best 129 = .ok (.iload 6, 2) := by decide +kernel
theorem dX6_best_131 : decode cX6_best 131 = .ok (.iand, 1) := by decide +kernel
theorem dX6_best_132 : decode cX6_best 132 = .ok (.ifCond .ne 7, 3) := by decide +kernel
theorem dX6_best_135 : decode cX6_best 135 = .ok (.iconst 1, 1) := by decide +kernel
theorem dX6_best_136 : decode cX6_best 136 = .ok (.goto 4, 3) := by decide +kernel
theorem dX6_best_139 : decode cX6_best 139 = .ok (.iconst 0, 1) := by decide +kernel
theorem dX6_best_140 : decode cX6_best 140 = .ok (.istore 8, 2) := by decide +kernel
theorem dX6_best_142 : decode cX6_best 142 = .ok (.iload 7, 2) := by decide +kernel
theorem dX6_best_144 : decode cX6_best 144 = .ok (.aload_n 3, 1) := by decide +kernel
theorem dX6_best_145 : decode cX6_best 145 = .ok (.iload 9, 2) := by decide +kernel
theorem dX6_best_147 : decode cX6_best 147 = .ok (.iaload, 1) := by decide +kernel
theorem dX6_best_148 : decode cX6_best 148 = .ok (.iadd, 1) := by decide +kernel
theorem dX6_best_149 : decode cX6_best 149 = .ok (.istore 7, 2) := by decide +kernel
theorem dX6_best_151 : decode cX6_best 151 = .ok (.iinc 9 1, 3) := by decide +kernel
theorem dX6_best_154 : decode cX6_best 154 = .ok (.goto (-56), 3) := by decide +kernel
theorem dX6_best_157 : decode cX6_best 157 = .ok (.iload 8, 2) := by decide +kernel
theorem dX6_best_159 : decode cX6_best 159 = .ok (.ifCond .eq 41, 3) := by decide +kernel
theorem dX6_best_162 : decode cX6_best 162 = .ok (.iload 7, 2) := by decide +kernel
theorem dX6_best_164 : decode cX6_best 164 = .ok (.iload 5, 2) := by decide +kernel
theorem dX6_best_166 : decode cX6_best 166 = .ok (.if_icmp .lt 34, 3) := by decide +kernel
theorem dX6_best_169 : decode cX6_best 169 = .ok (.iload 7, 2) := by decide +kernel
theorem dX6_best_171 : decode cX6_best 171 = .ok (.iload 5, 2) := by decide +kernel
theorem dX6_best_173 : decode cX6_best 173 = .ok (.if_icmp .ne 19, 3) := by decide +kernel
theorem dX6_best_176 : decode cX6_best 176 = .ok (.iload 6, 2) := by decide +kernel
theorem dX6_best_178 : decode cX6_best 178 = .ok (.invokestatic 143, 3) := by decide +kernel
theorem dX6_best_181 : decode cX6_best 181 = .ok (.iload 4, 2) := by decide +kernel
theorem dX6_best_183 : decode cX6_best 183 = .ok (.invokestatic 143, 3) := by decide +kernel
theorem dX6_best_186 : decode cX6_best 186 = .ok (.if_icmp .le 6, 3) := by decide +kernel
theorem dX6_best_189 : decode cX6_best 189 = .ok (.goto 11, 3) := by decide +kernel
theorem dX6_best_192 : decode cX6_best 192 = .ok (.iload 6, 2) := by decide +kernel
theorem dX6_best_194 : decode cX6_best 194 = .ok (.istore 4, 2) := by decide +kernel
theorem dX6_best_196 : decode cX6_best 196 = .ok (.iload 7, 2) := by decide +kernel
theorem dX6_best_198 : decode cX6_best 198 = .ok (.istore 5, 2) := by decide +kernel
theorem dX6_best_200 : decode cX6_best 200 = .ok (.iload 6, 2) := by decide +kernel
theorem dX6_best_202 : decode cX6_best 202 = .ok (.iconst 1, 1) := by decide +kernel
theorem dX6_best_203 : decode cX6_best 203 = .ok (.isub, 1) := by decide +kernel
theorem dX6_best_204 : decode cX6_best 204 = .ok (.iload_n 1, 1) := by decide +kernel
theorem dX6_best_205 : decode cX6_best 205 = .ok (.iand, 1) := by decide +kernel
theorem dX6_best_206 : decode cX6_best 206 = .ok (.istore 6, 2) := by decide +kernel
theorem dX6_best_208 : decode cX6_best 208 = .ok (.goto (-124), 3) := by decide +kernel
theorem dX6_best_211 : decode cX6_best 211 = .ok (.iload 4, 2) := by decide +kernel
theorem dX6_best_213 : decode cX6_best 213 = .ok (.ireturn, 1) := by decide +kernel
set_option maxRecDepth 20000 in
theorem ggX6_weight_X6_arePasses : GoodIn wsX6_weight wsX6_arePasses := goodIn_r _ [6, 7, 8, 9, 5, 10, 30, 31, 32, 33, 34, 35, 36, 37, 38, 39, 40, 41, 42, 43, 44, 45, 46, 47, 48, 49, 50, 51, 52, 53, 54, 55] (by decide +kernel) (by decide +kernel)
set_option maxRecDepth 20000 in
theorem gX6_weight_X6_arePasses : GoodIn wsX6_weight (wsV RX6 148 RX6 yX6_arePasses wsX6_arePasses) := goodIn_app (goodIn_of _ (by decide +kernel)) ggX6_weight_X6_arePasses
set_option maxRecDepth 20000 in
theorem ggX6_weight_X6_weightOfAll : GoodIn wsX6_weight wsX6_weightOfAll := goodIn_r _ [14, 7, 15, 16, 5, 17, 18, 19, 20, 21, 22, 23, 24, 25, 30, 31, 32, 33, 34, 35, 36, 37, 38, 39, 40, 41, 42, 43, 44, 45, 46, 47, 48, 49, 50, 51, 52, 53, 54, 55] (by decide +kernel) (by decide +kernel)
set_option maxRecDepth 20000 in
theorem gX6_weight_X6_weightOfAll : GoodIn wsX6_weight (wsV RX6 151 RX6 yX6_weightOfAll wsX6_weightOfAll) := goodIn_app (goodIn_of _ (by decide +kernel)) ggX6_weight_X6_weightOfAll
set_option maxRecDepth 20000 in
theorem ggX6_weight_X6_fail : GoodIn wsX6_weight wsX6_fail := goodIn_r _ [29, 1, 30, 31, 32, 33, 34, 35, 36, 37, 38, 39, 40, 41, 42, 43, 44, 45, 46, 47, 48, 49, 50, 51, 52, 53, 54, 55] (by decide +kernel) (by decide +kernel)
set_option maxRecDepth 20000 in
theorem gX6_weight_X6_fail : GoodIn wsX6_weight (wsV RX6 81 RX6 yX6_fail wsX6_fail) := goodIn_app (goodIn_of _ (by decide +kernel)) ggX6_weight_X6_fail
theorem dX6_weight_0 : decode cX6_weight 0 = .ok (.aload_n 0, 1) := by decide +kernel
theorem dX6_weight_1 : decode cX6_weight 1 = .ok (.iconst 0, 1) := by decide +kernel
theorem dX6_weight_2 : decode cX6_weight 2 = .ok (.putfield 65, 3) := by decide +kernel
theorem dX6_weight_5 : decode cX6_weight 5 = .ok (.aload_n 0, 1) := by decide +kernel
theorem dX6_weight_6 : decode cX6_weight 6 = .ok (.iload_n 1, 1) := by decide +kernel
theorem dX6_weight_7 : decode cX6_weight 7 = .ok (.invokevirtual 148, 3) := by decide +kernel
theorem dX6_weight_10 : decode cX6_weight 10 = .ok (.ifCond .eq 11, 3) := by decide +kernel
theorem dX6_weight_13 : decode cX6_weight 13 = .ok (.aload_n 0, 1) := by decide +kernel
theorem dX6_weight_14 : decode cX6_weight 14 = .ok (.iload_n 1, 1) := by decide +kernel
theorem dX6_weight_15 : decode cX6_weight 15 = .ok (.invokevirtual 151, 3) := by decide +kernel
theorem dX6_weight_18 : decode cX6_weight 18 = .ok (.goto 8, 3) := by decide +kernel
theorem dX6_weight_21 : decode cX6_weight 21 = .ok (.aload_n 0, 1) := by decide +kernel
theorem dX6_weight_22 : decode cX6_weight 22 = .ok (.iconst 1, 1) := by decide +kernel
theorem dX6_weight_23 : decode cX6_weight 23 = .ok (.invokevirtual 81, 3) := by decide +kernel
theorem dX6_weight_26 : decode cX6_weight 26 = .ok (.ireturn, 1) := by decide +kernel
set_option maxRecDepth 20000 in
theorem ggX6_take_X6_arePasses : GoodIn wsX6_take wsX6_arePasses := goodIn_r _ [8, 2, 9, 10, 7, 11, 51, 52, 53, 54, 55, 56, 57, 58, 59, 60, 61, 62, 63, 64, 65, 66, 67, 68, 69, 70, 71, 72, 73, 74, 75, 76] (by decide +kernel) (by decide +kernel)
set_option maxRecDepth 20000 in
theorem gX6_take_X6_arePasses : GoodIn wsX6_take (wsV RX6 148 RX6 yX6_arePasses wsX6_arePasses) := goodIn_app (goodIn_of _ (by decide +kernel)) ggX6_take_X6_arePasses
set_option maxRecDepth 20000 in
theorem ggX6_take_X6_fail : GoodIn wsX6_take wsX6_fail := goodIn_r _ [15, 1, 51, 52, 53, 54, 55, 56, 57, 58, 59, 60, 61, 62, 63, 64, 65, 66, 67, 68, 69, 70, 71, 72, 73, 74, 75, 76] (by decide +kernel) (by decide +kernel)
set_option maxRecDepth 20000 in
theorem gX6_take_X6_fail : GoodIn wsX6_take (wsV RX6 81 RX6 yX6_fail wsX6_fail) := goodIn_app (goodIn_of _ (by decide +kernel)) ggX6_take_X6_fail
set_option maxRecDepth 20000 in
theorem ggX6_take_X6_has : GoodIn wsX6_take wsX6_has := goodIn_r _ [18] (by decide +kernel) (by decide +kernel)
set_option maxRecDepth 20000 in
theorem gX6_take_X6_has : GoodIn wsX6_take (va_wsS RX6 96 yX6_has wsX6_has) := goodIn_app (goodIn_of _ (by decide +kernel)) ggX6_take_X6_has
set_option maxRecDepth 20000 in
theorem ggX6_take_X6_canBeTaken : GoodIn wsX6_take wsX6_canBeTaken := goodIn_r _ [22, 3, 23, 24, 25, 16, 17, 7, 18, 26, 27, 28, 29, 2, 30, 31, 32, 33, 34, 35, 36, 37, 38, 39, 40, 41, 42, 43, 44, 45, 46, 47, 48, 49, 50, 51, 52, 53, 54, 55, 56, 57, 58, 59, 60, 61, 62, 63, 64, 65, 66, 67, 68, 69, 70, 71, 72, 73, 74, 75, 76] (by decide +kernel) (by decide +kernel)
set_option maxRecDepth 20000 in
theorem gX6_take_X6_canBeTaken : GoodIn wsX6_take (wsV RX6 140 RX6 yX6_canBeTaken wsX6_canBeTaken) := goodIn_app (goodIn_of _ (by decide +kernel)) ggX6_take_X6_canBeTaken
set_option maxRecDepth 20000 in
theorem ggX6_take_X6_conflictsOf : GoodIn wsX6_take wsX6_conflictsOf := goodIn_r _ [29, 2, 30, 31, 32, 7, 33, 34, 23, 35, 36, 37, 38, 39, 40, 41, 42, 51, 52, 53, 54, 55, 56, 57, 58, 59, 60, 61, 62, 63, 64, 65, 66, 67, 68, 69, 70, 71, 72, 73, 74, 75, 76] (by decide +kernel) (by decide +kernel)
set_option maxRecDepth 20000 in
theorem gX6_take_X6_conflictsOf : GoodIn wsX6_take (wsV RX6 137 RX6 yX6_conflictsOf wsX6_conflictsOf) := goodIn_app (goodIn_of _ (by decide +kernel)) ggX6_take_X6_conflictsOf
theorem dX6_take_0 : decode cX6_take 0 = .ok (.aload_n 0, 1) := by decide +kernel
theorem dX6_take_1 : decode cX6_take 1 = .ok (.iconst 0, 1) := by decide +kernel
theorem dX6_take_2 : decode cX6_take 2 = .ok (.putfield 65, 3) := by decide +kernel
theorem dX6_take_5 : decode cX6_take 5 = .ok (.aload_n 0, 1) := by decide +kernel
theorem dX6_take_6 : decode cX6_take 6 = .ok (.iload_n 1, 1) := by decide +kernel
theorem dX6_take_7 : decode cX6_take 7 = .ok (.invokevirtual 148, 3) := by decide +kernel
theorem dX6_take_10 : decode cX6_take 10 = .ok (.ifCond .ne 9, 3) := by decide +kernel
theorem dX6_take_13 : decode cX6_take 13 = .ok (.aload_n 0, 1) := by decide +kernel
theorem dX6_take_14 : decode cX6_take 14 = .ok (.iconst 1, 1) := by decide +kernel
theorem dX6_take_15 : decode cX6_take 15 = .ok (.invokevirtual 81, 3) := by decide +kernel
theorem dX6_take_18 : decode cX6_take 18 = .ok (.ireturn, 1) := by decide +kernel
theorem dX6_take_19 : decode cX6_take 19 = .ok (.iconst 0, 1) := by decide +kernel
theorem dX6_take_20 : decode cX6_take 20 = .ok (.istore_n 2, 1) := by decide +kernel
theorem dX6_take_21 : decode cX6_take 21 = .ok (.iload_n 2, 1) := by decide +kernel
theorem dX6_take_22 : decode cX6_take 22 = .ok (.aload_n 0, 1) := by decide +kernel
theorem dX6_take_23 : decode cX6_take 23 = .ok (.getfield 78, 3) := by decide +kernel
theorem dX6_take_26 : decode cX6_take 26 = .ok (.if_icmp .ge 41, 3) := by decide +kernel
theorem dX6_take_29 : decode cX6_take 29 = .ok (.iload_n 1, 1) := by decide +kernel
theorem dX6_take_30 : decode cX6_take 30 = .ok (.iload_n 2, 1) := by decide +kernel
theorem dX6_take_31 : decode cX6_take 31 = .ok (.invokestatic 96, 3) := by decide +kernel
theorem dX6_take_34 : decode cX6_take 34 = .ok (.ifCond .eq 27, 3) := by decide +kernel
theorem dX6_take_37 : decode cX6_take 37 = .ok (.aload_n 0, 1) := by decide +kernel
theorem dX6_take_38 : decode cX6_take 38 = .ok (.iload_n 2, 1) := by decide +kernel
theorem dX6_take_39 : decode cX6_take 39 = .ok (.invokevirtual 140, 3) := by decide +kernel
theorem dX6_take_42 : decode cX6_take 42 = .ok (.ifCond .eq 13, 3) := by decide +kernel
theorem dX6_take_45 : decode cX6_take 45 = .ok (.aload_n 0, 1) := by decide +kernel
theorem dX6_take_46 : decode cX6_take 46 = .ok (.iload_n 2, 1) := by decide +kernel
theorem dX6_take_47 : decode cX6_take 47 = .ok (.invokevirtual 137, 3) := by decide +kernel
theorem dX6_take_50 : decode cX6_take 50 = .ok (.iload_n 1, 1) := by decide +kernel
theorem dX6_take_51 : decode cX6_take 51 = .ok (.iand, 1) := by decide +kernel
theorem dX6_take_52 : decode cX6_take 52 = .ok (.ifCond .eq 9, 3) := by decide +kernel
theorem dX6_take_55 : decode cX6_take 55 = .ok (.aload_n 0, 1) := by decide +kernel
theorem dX6_take_56 : decode cX6_take 56 = .ok (.iconst 2, 1) := by decide +kernel
theorem dX6_take_57 : decode cX6_take 57 = .ok (.invokevirtual 81, 3) := by decide +kernel
theorem dX6_take_60 : decode cX6_take 60 = .ok (.ireturn, 1) := by decide +kernel
theorem dX6_take_61 : decode cX6_take 61 = .ok (.iinc 2 1, 3) := by decide +kernel
theorem dX6_take_64 : decode cX6_take 64 = .ok (.goto (-43), 3) := by decide +kernel
theorem dX6_take_67 : decode cX6_take 67 = .ok (.aload_n 0, 1) := by decide +kernel
theorem dX6_take_68 : decode cX6_take 68 = .ok (.dup, 1) := by decide +kernel
theorem dX6_take_69 : decode cX6_take 69 = .ok (.getfield 107, 3) := by decide +kernel
theorem dX6_take_72 : decode cX6_take 72 = .ok (.iload_n 1, 1) := by decide +kernel
theorem dX6_take_73 : decode cX6_take 73 = .ok (.ior, 1) := by decide +kernel
theorem dX6_take_74 : decode cX6_take 74 = .ok (.putfield 107, 3) := by decide +kernel
theorem dX6_take_77 : decode cX6_take 77 = .ok (.aload_n 0, 1) := by decide +kernel
theorem dX6_take_78 : decode cX6_take 78 = .ok (.getfield 107, 3) := by decide +kernel
theorem dX6_take_81 : decode cX6_take 81 = .ok (.ireturn, 1) := by decide +kernel
set_option maxRecDepth 20000 in
theorem ggX6_giveUp_X6_isPass : GoodIn wsX6_giveUp wsX6_isPass := goodIn_r _ [9, 10, 11, 12, 8, 13, 21, 22, 23, 24, 25, 26, 27, 28, 29, 30, 31, 32, 33, 34, 35, 36, 37, 38, 39, 40, 41, 42, 43, 44, 45, 46] (by decide +kernel) (by decide +kernel)
set_option maxRecDepth 20000 in
theorem gX6_giveUp_X6_isPass : GoodIn wsX6_giveUp (wsV RX6 128 RX6 yX6_isPass wsX6_isPass) := goodIn_app (goodIn_of _ (by decide +kernel)) ggX6_giveUp_X6_isPass
set_option maxRecDepth 20000 in
theorem ggX6_giveUp_X6_fail : GoodIn wsX6_giveUp wsX6_fail := goodIn_r _ [17, 1, 21, 22, 23, 24, 25, 26, 27, 28, 29, 30, 31, 32, 33, 34, 35, 36, 37, 38, 39, 40, 41, 42, 43, 44, 45, 46] (by decide +kernel) (by decide +kernel)
set_option maxRecDepth 20000 in
theorem gX6_giveUp_X6_fail : GoodIn wsX6_giveUp (wsV RX6 81 RX6 yX6_fail wsX6_fail) := goodIn_app (goodIn_of _ (by decide +kernel)) ggX6_giveUp_X6_fail
set_option maxRecDepth 20000 in
theorem ggX6_giveUp_X6_has : GoodIn wsX6_giveUp wsX6_has := goodIn_r _ [20] (by decide +kernel) (by decide +kernel)
set_option maxRecDepth 20000 in
theorem gX6_giveUp_X6_has : GoodIn wsX6_giveUp (va_wsS RX6 96 yX6_has wsX6_has) := goodIn_app (goodIn_of _ (by decide +kernel)) ggX6_giveUp_X6_has
theorem dX6_giveUp_0 : decode cX6_giveUp 0 = .ok (.aload_n 0, 1) := by decide +kernel
theorem dX6_giveUp_1 : decode cX6_giveUp 1 = .ok (.iconst 0, 1) := by decide +kernel
theorem dX6_giveUp_2 : decode cX6_giveUp 2 = .ok (.putfield 65, 3) := by decide +kernel
theorem dX6_giveUp_5 : decode cX6_giveUp 5 = .ok (.aload_n 0, 1) := by decide +kernel
theorem dX6_giveUp_6 : decode cX6_giveUp 6 = .ok (.iload_n 1, 1) := by decide +kernel
theorem dX6_giveUp_7 : decode cX6_giveUp 7 = .ok (.invokevirtual 128, 3) := by decide +kernel
theorem dX6_giveUp_10 : decode cX6_giveUp 10 = .ok (.ifCond .ne 9, 3) := by decide +kernel
theorem dX6_giveUp_13 : decode cX6_giveUp 13 = .ok (.aload_n 0, 1) := by decide +kernel
theorem dX6_giveUp_14 : decode cX6_giveUp 14 = .ok (.iconst 1, 1) := by decide +kernel
theorem dX6_giveUp_15 : decode cX6_giveUp 15 = .ok (.invokevirtual 81, 3) := by decide +kernel
theorem dX6_giveUp_18 : decode cX6_giveUp 18 = .ok (.ireturn, 1) := by decide +kernel
theorem dX6_giveUp_19 : decode cX6_giveUp 19 = .ok (.aload_n 0, 1) := by decide +kernel
theorem dX6_giveUp_20 : decode cX6_giveUp 20 = .ok (.getfield 107, 3) := by decide +kernel
theorem dX6_giveUp_23 : decode cX6_giveUp 23 = .ok (.iload_n 1, 1) := by decide +kernel
theorem dX6_giveUp_24 : decode cX6_giveUp 24 = .ok (.invokestatic 96, 3) := by decide +kernel
theorem dX6_giveUp_27 : decode cX6_giveUp 27 = .ok (.ifCond .eq 16, 3) := by decide +kernel
theorem dX6_giveUp_30 : decode cX6_giveUp 30 = .ok (.aload_n 0, 1) := by decide +kernel
theorem dX6_giveUp_31 : decode cX6_giveUp 31 = .ok (.getfield 56, 3) := by decide +kernel
theorem dX6_giveUp_34 : decode cX6_giveUp 34 = .ok (.iload_n 1, 1) := by decide +kernel
theorem dX6_giveUp_35 : decode cX6_giveUp 35 = .ok (.iaload, 1) := by decide +kernel
theorem dX6_giveUp_36 : decode cX6_giveUp 36 = .ok (.aload_n 0, 1) := by decide +kernel
theorem dX6_giveUp_37 : decode cX6_giveUp 37 = .ok (.getfield 93, 3) := by decide +kernel
theorem dX6_giveUp_40 : decode cX6_giveUp 40 = .ok (.if_icmp .ge 9, 3) := by decide +kernel
theorem dX6_giveUp_43 : decode cX6_giveUp 43 = .ok (.aload_n 0, 1) := by decide +kernel
theorem dX6_giveUp_44 : decode cX6_giveUp 44 = .ok (.iconst 2, 1) := by decide +kernel
theorem dX6_giveUp_45 : decode cX6_giveUp 45 = .ok (.invokevirtual 81, 3) := by decide +kernel
theorem dX6_giveUp_48 : decode cX6_giveUp 48 = .ok (.ireturn, 1) := by decide +kernel
theorem dX6_giveUp_49 : decode cX6_giveUp 49 = .ok (.aload_n 0, 1) := by decide +kernel
theorem dX6_giveUp_50 : decode cX6_giveUp 50 = .ok (.dup, 1) := by decide +kernel
theorem dX6_giveUp_51 : decode cX6_giveUp 51 = .ok (.getfield 107, 3) := by decide +kernel
theorem dX6_giveUp_54 : decode cX6_giveUp 54 = .ok (.iconst 1, 1) := by decide +kernel
theorem dX6_giveUp_55 : decode cX6_giveUp 55 = .ok (.iload_n 1, 1) := by decide +kernel
theorem dX6_giveUp_56 : decode cX6_giveUp 56 = .ok (.ishl, 1) := by decide +kernel
theorem dX6_giveUp_57 : decode cX6_giveUp 57 = .ok (.iconst (-1), 1) := by decide +kernel
theorem dX6_giveUp_58 : decode cX6_giveUp 58 = .ok (.ixor, 1) := by decide +kernel
theorem dX6_giveUp_59 : decode cX6_giveUp 59 = .ok (.iand, 1) := by decide +kernel
theorem dX6_giveUp_60 : decode cX6_giveUp 60 = .ok (.putfield 107, 3) := by decide +kernel
theorem dX6_giveUp_63 : decode cX6_giveUp 63 = .ok (.aload_n 0, 1) := by decide +kernel
theorem dX6_giveUp_64 : decode cX6_giveUp 64 = .ok (.getfield 107, 3) := by decide +kernel
theorem dX6_giveUp_67 : decode cX6_giveUp 67 = .ok (.ireturn, 1) := by decide +kernel
theorem dX6_taken_0 : decode cX6_taken 0 = .ok (.aload_n 0, 1) := by decide +kernel
theorem dX6_taken_1 : decode cX6_taken 1 = .ok (.iconst 0, 1) := by decide +kernel
theorem dX6_taken_2 : decode cX6_taken 2 = .ok (.putfield 65, 3) := by decide +kernel
theorem dX6_taken_5 : decode cX6_taken 5 = .ok (.aload_n 0, 1) := by decide +kernel
theorem dX6_taken_6 : decode cX6_taken 6 = .ok (.getfield 107, 3) := by decide +kernel
theorem dX6_taken_9 : decode cX6_taken 9 = .ok (.ireturn, 1) := by decide +kernel
set_option maxRecDepth 20000 in
theorem ggX6_handovers_X6_isSatellite : GoodIn wsX6_handovers wsX6_isSatellite := goodIn_r _ [10, 11, 12, 13, 9, 14, 35, 36, 37, 38, 39, 40, 41, 42, 43, 44, 45, 46, 47, 48, 49, 50, 51, 52, 53, 54, 55, 56, 57, 58, 59, 60] (by decide +kernel) (by decide +kernel)
set_option maxRecDepth 20000 in
theorem gX6_handovers_X6_isSatellite : GoodIn wsX6_handovers (wsV RX6 86 RX6 yX6_isSatellite wsX6_isSatellite) := goodIn_app (goodIn_of _ (by decide +kernel)) ggX6_handovers_X6_isSatellite
set_option maxRecDepth 20000 in
theorem ggX6_handovers_X6_fail : GoodIn wsX6_handovers wsX6_fail := goodIn_r _ [18, 1, 35, 36, 37, 38, 39, 40, 41, 42, 43, 44, 45, 46, 47, 48, 49, 50, 51, 52, 53, 54, 55, 56, 57, 58, 59, 60] (by decide +kernel) (by decide +kernel)
set_option maxRecDepth 20000 in
theorem gX6_handovers_X6_fail : GoodIn wsX6_handovers (wsV RX6 81 RX6 yX6_fail wsX6_fail) := goodIn_app (goodIn_of _ (by decide +kernel)) ggX6_handovers_X6_fail
set_option maxRecDepth 20000 in
theorem ggX6_handovers_X6_has : GoodIn wsX6_handovers wsX6_has := goodIn_r _ [21] (by decide +kernel) (by decide +kernel)
set_option maxRecDepth 20000 in
theorem gX6_handovers_X6_has : GoodIn wsX6_handovers (va_wsS RX6 96 yX6_has wsX6_has) := goodIn_app (goodIn_of _ (by decide +kernel)) ggX6_handovers_X6_has
set_option maxRecDepth 20000 in
theorem ggX6_handovers_X6_startOf : GoodIn wsX6_handovers wsX6_startOf := goodIn_r _ [25, 5, 2, 3, 4, 26, 27, 28, 29, 30, 19, 20, 9, 21, 31, 32, 33, 34, 35, 36, 37, 38, 39, 40, 41, 42, 43, 44, 45, 46, 47, 48, 49, 50, 51, 52, 53, 54, 55, 56, 57, 58, 59, 60] (by decide +kernel) (by decide +kernel)
set_option maxRecDepth 20000 in
theorem gX6_handovers_X6_startOf : GoodIn wsX6_handovers (wsV RX6 125 RX6 yX6_startOf wsX6_startOf) := goodIn_app (goodIn_of _ (by decide +kernel)) ggX6_handovers_X6_startOf
theorem dX6_handovers_0 : decode cX6_handovers 0 = .ok (.aload_n 0, 1) := by decide +kernel
theorem dX6_handovers_1 : decode cX6_handovers 1 = .ok (.iconst 0, 1) := by decide +kernel
theorem dX6_handovers_2 : decode cX6_handovers 2 = .ok (.putfield 65, 3) := by decide +kernel
theorem dX6_handovers_5 : decode cX6_handovers 5 = .ok (.aload_n 0, 1) := by decide +kernel
theorem dX6_handovers_6 : decode cX6_handovers 6 = .ok (.iload_n 1, 1) := by decide +kernel
theorem dX6_handovers_7 : decode cX6_handovers 7 = .ok (.invokevirtual 86, 3) := by decide +kernel
theorem dX6_handovers_10 : decode cX6_handovers 10 = .ok (.ifCond .ne 9, 3) := by decide +kernel
theorem dX6_handovers_13 : decode cX6_handovers 13 = .ok (.aload_n 0, 1) := by decide +kernel
theorem dX6_handovers_14 : decode cX6_handovers 14 = .ok (.iconst 1, 1) := by decide +kernel
theorem dX6_handovers_15 : decode cX6_handovers 15 = .ok (.invokevirtual 81, 3) := by decide +kernel
theorem dX6_handovers_18 : decode cX6_handovers 18 = .ok (.ireturn, 1) := by decide +kernel
theorem dX6_handovers_19 : decode cX6_handovers 19 = .ok (.iconst 0, 1) := by decide +kernel
theorem dX6_handovers_20 : decode cX6_handovers 20 = .ok (.istore_n 2, 1) := by decide +kernel
theorem dX6_handovers_21 : decode cX6_handovers 21 = .ok (.iconst 0, 1) := by decide +kernel
theorem dX6_handovers_22 : decode cX6_handovers 22 = .ok (.istore_n 3, 1) := by decide +kernel
theorem dX6_handovers_23 : decode cX6_handovers 23 = .ok (.iload_n 3, 1) := by decide +kernel
theorem dX6_handovers_24 : decode cX6_handovers 24 = .ok (.aload_n 0, 1) := by decide +kernel
theorem dX6_handovers_25 : decode cX6_handovers 25 = .ok (.getfield 78, 3) := by decide +kernel
theorem dX6_handovers_28 : decode cX6_handovers 28 = .ok (.if_icmp .ge 52, 3) := by decide +kernel
theorem dX6_handovers_31 : decode cX6_handovers 31 = .ok (.iload_n 2, 1) := by decide +kernel
theorem dX6_handovers_32 : decode cX6_handovers 32 = .ok (.aload_n 0, 1) := by decide +kernel
theorem dX6_handovers_33 : decode cX6_handovers 33 = .ok (.getfield 107, 3) := by decide +kernel
theorem dX6_handovers_36 : decode cX6_handovers 36 = .ok (.iload_n 3, 1) := by decide +kernel
theorem dX6_handovers_37 : decode cX6_handovers 37 = .ok (.invokestatic 96, 3) := by decide +kernel
theorem dX6_handovers_40 : decode cX6_handovers 40 = .ok (.ifCond .eq 31, 3) := by decide +kernel
theorem dX6_handovers_43 : decode cX6_handovers 43 = .ok (.aload_n 0, 1) := by decide +kernel
theorem dX6_handovers_44 : decode cX6_handovers 44 = .ok (.getfield 50, 3) := by decide +kernel
theorem dX6_handovers_47 : decode cX6_handovers 47 = .ok (.iload_n 3, 1) := by decide +kernel
theorem dX6_handovers_48 : decode cX6_handovers 48 = .ok (.iaload, 1) := by decide +kernel
theorem dX6_handovers_49 : decode cX6_handovers 49 = .ok (.iload_n 1, 1) := by decide +kernel
theorem dX6_handovers_50 : decode cX6_handovers 50 = .ok (.if_icmp .ne 21, 3) := by decide +kernel
theorem dX6_handovers_53 : decode cX6_handovers 53 = .ok (.aload_n 0, 1) := by decide +kernel
theorem dX6_handovers_54 : decode cX6_handovers 54 = .ok (.iload_n 3, 1) := by decide +kernel
theorem dX6_handovers_55 : decode cX6_handovers 55 = .ok (.invokevirtual 125, 3) := by decide +kernel
theorem dX6_handovers_58 : decode cX6_handovers 58 = .ok (.aload_n 0, 1) := by decide +kernel
theorem dX6_handovers_59 : decode cX6_handovers 59 = .ok (.getfield 56, 3) := by decide +kernel
theorem dX6_handovers_62 : decode cX6_handovers 62 = .ok (.iload_n 3, 1) := by decide +kernel
theorem dX6_handovers_63 : decode cX6_handovers 63 = .ok (.iaload, 1) := by decide +kernel
theorem dX6_handovers_64 : decode cX6_handovers 64 = .ok (.if_icmp .eq 7, 3) := by decide +kernel
theorem dX6_handovers_67 : decode cX6_handovers 67 = .ok (.iconst 1, 1) := by decide +kernel
theorem dX6_handovers_68 : decode cX6_handovers 68 = .ok (.goto 4, 3) := by decide +kernel
theorem dX6_handovers_71 : decode cX6_handovers 71 = .ok (.iconst 0, 1) := by decide +kernel
theorem dX6_handovers_72 : decode cX6_handovers 72 = .ok (.iadd, 1) := by decide +kernel
theorem dX6_handovers_73 : decode cX6_handovers 73 = .ok (.istore_n 2, 1) := by decide +kernel
theorem dX6_handovers_74 : decode cX6_handovers 74 = .ok (.iinc 3 1, 3) := by decide +kernel
theorem dX6_handovers_77 : decode cX6_handovers 77 = .ok (.goto (-54), 3) := by decide +kernel
theorem dX6_handovers_80 : decode cX6_handovers 80 = .ok (.iload_n 2, 1) := by decide +kernel
theorem dX6_handovers_81 : decode cX6_handovers 81 = .ok (.ireturn, 1) := by decide +kernel
set_option maxRecDepth 20000 in
theorem ggX6_isOut_X6_isIn : GoodIn wsX6_isOut wsX6_isIn := goodIn_r _ [7] (by decide +kernel) (by decide +kernel)
set_option maxRecDepth 20000 in
theorem gX6_isOut_X6_isIn : GoodIn wsX6_isOut (va_wsS RX6 71 yX6_isIn wsX6_isIn) := goodIn_app (goodIn_of _ (by decide +kernel)) ggX6_isOut_X6_isIn
theorem dX6_isOut_0 : decode cX6_isOut 0 = .ok (.iconst 0, 1) := by decide +kernel
theorem dX6_isOut_1 : decode cX6_isOut 1 = .ok (.istore_n 2, 1) := by decide +kernel
theorem dX6_isOut_2 : decode cX6_isOut 2 = .ok (.iconst 0, 1) := by decide +kernel
theorem dX6_isOut_3 : decode cX6_isOut 3 = .ok (.istore_n 3, 1) := by decide +kernel
theorem dX6_isOut_4 : decode cX6_isOut 4 = .ok (.iload_n 3, 1) := by decide +kernel
theorem dX6_isOut_5 : decode cX6_isOut 5 = .ok (.aload_n 0, 1) := by decide +kernel
theorem dX6_isOut_6 : decode cX6_isOut 6 = .ok (.getfield 104, 3) := by decide +kernel
theorem dX6_isOut_9 : decode cX6_isOut 9 = .ok (.if_icmp .ge 63, 3) := by decide +kernel
theorem dX6_isOut_12 : decode cX6_isOut 12 = .ok (.iload_n 2, 1) := by decide +kernel
theorem dX6_isOut_13 : decode cX6_isOut 13 = .ok (.ifCond .ne 47, 3) := by decide +kernel
theorem dX6_isOut_16 : decode cX6_isOut 16 = .ok (.aload_n 0, 1) := by decide +kernel
theorem dX6_isOut_17 : decode cX6_isOut 17 = .ok (.getfield 26, 3) := by decide +kernel
theorem dX6_isOut_20 : decode cX6_isOut 20 = .ok (.iconst 3, 1) := by decide +kernel
theorem dX6_isOut_21 : decode cX6_isOut 21 = .ok (.iload_n 3, 1) := by decide +kernel
theorem dX6_isOut_22 : decode cX6_isOut 22 = .ok (.imul, 1) := by decide +kernel
theorem dX6_isOut_23 : decode cX6_isOut 23 = .ok (.iaload, 1) := by decide +kernel
theorem dX6_isOut_24 : decode cX6_isOut 24 = .ok (.iload_n 1, 1) := by decide +kernel
theorem dX6_isOut_25 : decode cX6_isOut 25 = .ok (.if_icmp .ne 39, 3) := by decide +kernel
theorem dX6_isOut_28 : decode cX6_isOut 28 = .ok (.aload_n 0, 1) := by decide +kernel
theorem dX6_isOut_29 : decode cX6_isOut 29 = .ok (.getfield 93, 3) := by decide +kernel
theorem dX6_isOut_32 : decode cX6_isOut 32 = .ok (.aload_n 0, 1) := by decide +kernel
theorem dX6_isOut_33 : decode cX6_isOut 33 = .ok (.getfield 26, 3) := by decide +kernel
theorem dX6_isOut_36 : decode cX6_isOut 36 = .ok (.iconst 3, 1) := by decide +kernel
theorem dX6_isOut_37 : decode cX6_isOut 37 = .ok (.iload_n 3, 1) := by decide +kernel
theorem dX6_isOut_38 : decode cX6_isOut 38 = .ok (.imul, 1) := by decide +kernel
theorem dX6_isOut_39 : decode cX6_isOut 39 = .ok (.iconst 1, 1) := by decide +kernel
theorem dX6_isOut_40 : decode cX6_isOut 40 = .ok (.iadd, 1) := by decide +kernel
theorem dX6_isOut_41 : decode cX6_isOut 41 = .ok (.iaload, 1) := by decide +kernel
theorem dX6_isOut_42 : decode cX6_isOut 42 = .ok (.aload_n 0, 1) := by decide +kernel
theorem dX6_isOut_43 : decode cX6_isOut 43 = .ok (.getfield 26, 3) := by decide +kernel
theorem dX6_isOut_46 : decode cX6_isOut 46 = .ok (.iconst 3, 1) := by decide +kernel
theorem dX6_isOut_47 : decode cX6_isOut 47 = .ok (.iload_n 3, 1) := by decide +kernel
theorem dX6_isOut_48 : decode cX6_isOut 48 = .ok (.imul, 1) := by decide +kernel
theorem dX6_isOut_49 : decode cX6_isOut 49 = .ok (.iconst 2, 1) := by decide +kernel
theorem dX6_isOut_50 : decode cX6_isOut 50 = .ok (.iadd, 1) := by decide +kernel
theorem dX6_isOut_51 : decode cX6_isOut 51 = .ok (.iaload, 1) := by decide +kernel
theorem dX6_isOut_52 : decode cX6_isOut 52 = .ok (.iconst 1, 1) := by decide +kernel
theorem dX6_isOut_53 : decode cX6_isOut 53 = .ok (.isub, 1) := by decide +kernel
theorem dX6_isOut_54 : decode cX6_isOut 54 = .ok (.invokestatic 71, 3) := by decide +kernel
theorem dX6_isOut_57 : decode cX6_isOut 57 = .ok (.ifCond .eq 7, 3) := by decide +kernel
theorem dX6_isOut_60 : decode cX6_isOut 60 = .ok (.iconst 1, 1) := by decide +kernel
theorem dX6_isOut_61 : decode cX6_isOut 61 = .ok (.goto 4, 3) := by decide +kernel
theorem dX6_isOut_64 : decode cX6_isOut 64 = .ok (.iconst 0, 1) := by decide +kernel
theorem dX6_isOut_65 : decode cX6_isOut 65 = .ok (.istore_n 2, 1) := by decide +kernel
theorem dX6_isOut_66 : decode cX6_isOut 66 = .ok (.iinc 3 1, 3) := by decide +kernel
theorem dX6_isOut_69 : decode cX6_isOut 69 = .ok (.goto (-65), 3) := by decide +kernel
theorem dX6_isOut_72 : decode cX6_isOut 72 = .ok (.iload_n 2, 1) := by decide +kernel
theorem dX6_isOut_73 : decode cX6_isOut 73 = .ok (.ireturn, 1) := by decide +kernel
set_option maxRecDepth 20000 in
theorem ggX6_isHeard_X6_has : GoodIn wsX6_isHeard wsX6_has := goodIn_r _ [7] (by decide +kernel) (by decide +kernel)
set_option maxRecDepth 20000 in
theorem gX6_isHeard_X6_has : GoodIn wsX6_isHeard (va_wsS RX6 96 yX6_has wsX6_has) := goodIn_app (goodIn_of _ (by decide +kernel)) ggX6_isHeard_X6_has
set_option maxRecDepth 20000 in
theorem ggX6_isHeard_X6_startOf : GoodIn wsX6_isHeard wsX6_startOf := goodIn_r _ [11, 12, 13, 1, 14, 3, 15, 16, 17, 18, 4, 5, 6, 7, 19, 20, 21, 22, 23, 24, 25, 26, 27, 28, 29, 30, 31, 32, 33, 34, 35, 36, 37, 38, 39, 40, 41, 42, 43, 44, 45, 46, 47, 48] (by decide +kernel) (by decide +kernel)
set_option maxRecDepth 20000 in
theorem gX6_isHeard_X6_startOf : GoodIn wsX6_isHeard (wsV RX6 125 RX6 yX6_startOf wsX6_startOf) := goodIn_app (goodIn_of _ (by decide +kernel)) ggX6_isHeard_X6_startOf
theorem dX6_isHeard_0 : decode cX6_isHeard 0 = .ok (.aload_n 0, 1) := by decide +kernel
theorem dX6_isHeard_1 : decode cX6_isHeard 1 = .ok (.getfield 107, 3) := by decide +kernel
theorem dX6_isHeard_4 : decode cX6_isHeard 4 = .ok (.iload_n 1, 1) := by decide +kernel
theorem dX6_isHeard_5 : decode cX6_isHeard 5 = .ok (.invokestatic 96, 3) := by decide +kernel
theorem dX6_isHeard_8 : decode cX6_isHeard 8 = .ok (.ifCond .eq 32, 3) := by decide +kernel
theorem dX6_isHeard_11 : decode cX6_isHeard 11 = .ok (.aload_n 0, 1) := by decide +kernel
theorem dX6_isHeard_12 : decode cX6_isHeard 12 = .ok (.getfield 93, 3) := by decide +kernel
theorem dX6_isHeard_15 : decode cX6_isHeard 15 = .ok (.aload_n 0, 1) := by decide +kernel
theorem dX6_isHeard_16 : decode cX6_isHeard 16 = .ok (.getfield 59, 3) := by decide +kernel
theorem dX6_isHeard_19 : decode cX6_isHeard 19 = .ok (.iload_n 1, 1) := by decide +kernel
theorem dX6_isHeard_20 : decode cX6_isHeard 20 = .ok (.iaload, 1) := by decide +kernel
theorem dX6_isHeard_21 : decode cX6_isHeard 21 = .ok (.if_icmp .ge 19, 3) := by decide +kernel
theorem dX6_isHeard_24 : decode cX6_isHeard 24 = .ok (.aload_n 0, 1) := by decide +kernel
theorem dX6_isHeard_25 : decode cX6_isHeard 25 = .ok (.getfield 93, 3) := by decide +kernel
theorem dX6_isHeard_28 : decode cX6_isHeard 28 = .ok (.aload_n 0, 1) := by decide +kernel
theorem dX6_isHeard_29 : decode cX6_isHeard 29 = .ok (.iload_n 1, 1) := by decide +kernel
theorem dX6_isHeard_30 : decode cX6_isHeard 30 = .ok (.invokevirtual 125, 3) := by decide +kernel
theorem dX6_isHeard_33 : decode cX6_isHeard 33 = .ok (.if_icmp .lt 7, 3) := by decide +kernel
theorem dX6_isHeard_36 : decode cX6_isHeard 36 = .ok (.iconst 1, 1) := by decide +kernel
theorem dX6_isHeard_37 : decode cX6_isHeard 37 = .ok (.goto 4, 3) := by decide +kernel
theorem dX6_isHeard_40 : decode cX6_isHeard 40 = .ok (.iconst 0, 1) := by decide +kernel
theorem dX6_isHeard_41 : decode cX6_isHeard 41 = .ok (.ireturn, 1) := by decide +kernel
set_option maxRecDepth 20000 in
theorem ggX6_step_X6_isHeard : GoodIn wsX6_step wsX6_isHeard := goodIn_r _ [26, 27, 21, 28, 29, 30, 25, 31, 32, 33, 34, 35, 36, 11, 14, 5, 6, 7, 8, 37, 38, 39, 40, 50, 51, 52, 53, 54, 55, 56, 57, 58, 59, 60, 61, 62, 63, 64, 65, 66, 67, 68, 69, 70, 71, 72, 73, 74, 75] (by decide +kernel) (by decide +kernel)
set_option maxRecDepth 20000 in
theorem gX6_step_X6_isHeard : GoodIn wsX6_step (wsV RX6 158 RX6 yX6_isHeard wsX6_isHeard) := goodIn_app (goodIn_of _ (by decide +kernel)) ggX6_step_X6_isHeard
set_option maxRecDepth 20000 in
theorem ggX6_step_X6_isOut : GoodIn wsX6_step wsX6_isOut := goodIn_r _ [44, 45, 46, 21, 47, 48, 25, 49, 50, 51, 52, 53, 54, 55, 56, 57, 58, 59, 60, 61, 62, 63, 64, 65, 66, 67, 68, 69, 70, 71, 72, 73, 74, 75] (by decide +kernel) (by decide +kernel)
set_option maxRecDepth 20000 in
theorem gX6_step_X6_isOut : GoodIn wsX6_step (wsV RX6 161 RX6 yX6_isOut wsX6_isOut) := goodIn_app (goodIn_of _ (by decide +kernel)) ggX6_step_X6_isOut
theorem dX6_step_0 : decode cX6_step 0 = .ok (.iconst 0, 1) := by decide +kernel
theorem dX6_step_1 : decode cX6_step 1 = .ok (.istore_n 1, 1) := by decide +kernel
theorem dX6_step_2 : decode cX6_step 2 = .ok (.iload_n 1, 1) := by decide +kernel
theorem dX6_step_3 : decode cX6_step 3 = .ok (.aload_n 0, 1) := by decide +kernel
theorem dX6_step_4 : decode cX6_step 4 = .ok (.getfield 75, 3) := by decide +kernel
theorem dX6_step_7 : decode cX6_step 7 = .ok (.if_icmp .ge 77, 3) := by decide +kernel
theorem dX6_step_10 : decode cX6_step 10 = .ok (.iconst 0, 1) := by decide +kernel
theorem dX6_step_11 : decode cX6_step 11 = .ok (.aload_n 0, 1) := by decide +kernel
theorem dX6_step_12 : decode cX6_step 12 = .ok (.getfield 41, 3) := by decide +kernel
theorem dX6_step_15 : decode cX6_step 15 = .ok (.iload_n 1, 1) := by decide +kernel
theorem dX6_step_16 : decode cX6_step 16 = .ok (.iaload, 1) := by decide +kernel
theorem dX6_step_17 : decode cX6_step 17 = .ok (.aload_n 0, 1) := by decide +kernel
theorem dX6_step_18 : decode cX6_step 18 = .ok (.getfield 35, 3) := by decide +kernel
theorem dX6_step_21 : decode cX6_step 21 = .ok (.iload_n 1, 1) := by decide +kernel
theorem dX6_step_22 : decode cX6_step 22 = .ok (.iaload, 1) := by decide +kernel
theorem dX6_step_23 : decode cX6_step 23 = .ok (.iadd, 1) := by decide +kernel
theorem dX6_step_24 : decode cX6_step 24 = .ok (.aload_n 0, 1) := by decide +kernel
theorem dX6_step_25 : decode cX6_step 25 = .ok (.getfield 38, 3) := by decide +kernel
theorem dX6_step_28 : decode cX6_step 28 = .ok (.iload_n 1, 1) := by decide +kernel
theorem dX6_step_29 : decode cX6_step 29 = .ok (.iaload, 1) := by decide +kernel
theorem dX6_step_30 : decode cX6_step 30 = .ok (.isub, 1) := by decide +kernel
theorem dX6_step_31 : decode cX6_step 31 = .ok (.invokestatic 116, 3) := by decide +kernel
theorem dX6_step_34 : decode cX6_step 34 = .ok (.istore_n 2, 1) := by decide +kernel
theorem dX6_step_35 : decode cX6_step 35 = .ok (.aload_n 0, 1) := by decide +kernel
theorem dX6_step_36 : decode cX6_step 36 = .ok (.getfield 41, 3) := by decide +kernel
theorem dX6_step_39 : decode cX6_step 39 = .ok (.iload_n 1, 1) := by decide +kernel
theorem dX6_step_40 : decode cX6_step 40 = .ok (.dup2, 1) := by decide +kernel
theorem dX6_step_41 : decode cX6_step 41 = .ok (.iaload, 1) := by decide +kernel
theorem dX6_step_42 : decode cX6_step 42 = .ok (.aload_n 0, 1) := by decide +kernel
theorem dX6_step_43 : decode cX6_step 43 = .ok (.getfield 35, 3) := by decide +kernel
theorem dX6_step_46 : decode cX6_step 46 = .ok (.iload_n 1, 1) := by decide +kernel
theorem dX6_step_47 : decode cX6_step 47 = .ok (.iaload, 1) := by decide +kernel
theorem dX6_step_48 : decode cX6_step 48 = .ok (.iload_n 2, 1) := by decide +kernel
theorem dX6_step_49 : decode cX6_step 49 = .ok (.isub, 1) := by decide +kernel
theorem dX6_step_50 : decode cX6_step 50 = .ok (.iadd, 1) := by decide +kernel
theorem dX6_step_51 : decode cX6_step 51 = .ok (.iastore, 1) := by decide +kernel
theorem dX6_step_52 : decode cX6_step 52 = .ok (.aload_n 0, 1) := by decide +kernel
theorem dX6_step_53 : decode cX6_step 53 = .ok (.getfield 44, 3) := by decide +kernel
theorem dX6_step_56 : decode cX6_step 56 = .ok (.iload_n 1, 1) := by decide +kernel
theorem dX6_step_57 : decode cX6_step 57 = .ok (.dup2, 1) := by decide +kernel
theorem dX6_step_58 : decode cX6_step 58 = .ok (.iaload, 1) := by decide +kernel
theorem dX6_step_59 : decode cX6_step 59 = .ok (.iload_n 2, 1) := by decide +kernel
theorem dX6_step_60 : decode cX6_step 60 = .ok (.iadd, 1) := by decide +kernel
theorem dX6_step_61 : decode cX6_step 61 = .ok (.iastore, 1) := by decide +kernel
theorem dX6_step_62 : decode cX6_step 62 = .ok (.aload_n 0, 1) := by decide +kernel
theorem dX6_step_63 : decode cX6_step 63 = .ok (.dup, 1) := by decide +kernel
theorem dX6_step_64 : decode cX6_step 64 = .ok (.getfield 154, 3) := by decide +kernel
theorem dX6_step_67 : decode cX6_step 67 = .ok (.aload_n 0, 1) := by decide +kernel
theorem dX6_step_68 : decode cX6_step 68 = .ok (.getfield 35, 3) := by decide +kernel
theorem dX6_step_71 : decode cX6_step 71 = .ok (.iload_n 1, 1) := by decide +kernel
theorem dX6_step_72 : decode cX6_step 72 = .ok (.iaload, 1) := by decide +kernel
theorem dX6_step_73 : decode cX6_step 73 = .ok (.i2l, 1) := by decide +kernel
theorem dX6_step_74 : decode cX6_step 74 = .ok (.ladd, 1) := by decide +kernel
theorem dX6_step_75 : decode cX6_step 75 = .ok (.putfield 154, 3) := by decide +kernel
theorem dX6_step_78 : decode cX6_step 78 = .ok (.iinc 1 1, 3) := by decide +kernel
theorem dX6_step_81 : decode cX6_step 81 = .ok (.goto (-79), 3) := by decide +kernel
theorem dX6_step_84 : decode cX6_step 84 = .ok (.iconst 0, 1) := by decide +kernel
theorem dX6_step_85 : decode cX6_step 85 = .ok (.istore_n 1, 1) := by decide +kernel
theorem dX6_step_86 : decode cX6_step 86 = .ok (.iconst 0, 1) := by decide +kernel
theorem dX6_step_87 : decode cX6_step 87 = .ok (.istore_n 2, 1) := by decide +kernel
theorem dX6_step_88 : decode cX6_step 88 = .ok (.iload_n 2, 1) := by decide +kernel
theorem dX6_step_89 : decode cX6_step 89 = .ok (.aload_n 0, 1) := by decide +kernel
theorem dX6_step_90 : decode cX6_step 90 = .ok (.getfield 78, 3) := by decide +kernel
theorem dX6_step_93 : decode cX6_step 93 = .ok (.if_icmp .ge 118, 3) := by decide +kernel
theorem dX6_step_96 : decode cX6_step 96 = .ok (.aload_n 0, 1) := by decide +kernel
theorem dX6_step_97 : decode cX6_step 97 = .ok (.iload_n 2, 1) := by decide +kernel
theorem dX6_step_98 : decode cX6_step 98 = .ok (.invokevirtual 158, 3) := by decide +kernel
theorem dX6_step_101 : decode cX6_step 101 = .ok (.ifCond .eq 104, 3) := by decide +kernel
theorem dX6_step_104 : decode cX6_step 104 = .ok (.aload_n 0, 1) := by decide +kernel
theorem dX6_step_105 : decode cX6_step 105 = .ok (.aload_n 0, 1) := by decide +kernel
theorem dX6_step_106 : decode cX6_step 106 = .ok (.getfield 53, 3) := by decide +kernel
theorem dX6_step_109 : decode cX6_step 109 = .ok (.iload_n 2, 1) := by decide +kernel
theorem dX6_step_110 : decode cX6_step 110 = .ok (.iaload, 1) := by decide +kernel
theorem dX6_step_111 : decode cX6_step 111 = .ok (.invokevirtual 161, 3) := by decide +kernel
theorem dX6_step_114 : decode cX6_step 114 = .ok (.ifCond .eq 6, 3) := by decide +kernel
theorem dX6_step_117 : decode cX6_step 117 = .ok (.goto 88, 3) := by decide +kernel
theorem dX6_step_120 : decode cX6_step 120 = .ok (.aload_n 0, 1) := by decide +kernel
theorem dX6_step_121 : decode cX6_step 121 = .ok (.getfield 20, 3) := by decide +kernel
theorem dX6_step_124 : decode cX6_step 124 = .ok (.aload_n 0, 1) := by decide +kernel
theorem dX6_step_125 : decode cX6_step 125 = .ok (.getfield 53, 3) := by decide +kernel
theorem dX6_step_128 : decode cX6_step 128 = .ok (.iload_n 2, 1) := by decide +kernel
theorem dX6_step_129 : decode cX6_step 129 = .ok (.iaload, 1) := by decide +kernel
theorem dX6_step_130 : decode cX6_step 130 = .ok (.iaload, 1) := by decide +kernel
theorem dX6_step_131 : decode cX6_step 131 = .ok (.aload_n 0, 1) := by decide +kernel
theorem dX6_step_132 : decode cX6_step 132 = .ok (.getfield 41, 3) := by decide +kernel
theorem dX6_step_135 : decode cX6_step 135 = .ok (.aload_n 0, 1) := by decide +kernel
theorem dX6_step_136 : decode cX6_step 136 = .ok (.getfield 50, 3) := by decide +kernel
theorem dX6_step_139 : decode cX6_step 139 = .ok (.iload_n 2, 1) := by decide +kernel
theorem dX6_step_140 : decode cX6_step 140 = .ok (.iaload, 1) := by decide +kernel
theorem dX6_step_141 : decode cX6_step 141 = .ok (.iaload, 1) := by decide +kernel
theorem dX6_step_142 : decode cX6_step 142 = .ok (.invokestatic 164, 3) := by decide +kernel
theorem dX6_step_145 : decode cX6_step 145 = .ok (.istore_n 3, 1) := by decide +kernel
theorem dX6_step_146 : decode cX6_step 146 = .ok (.aload_n 0, 1) := by decide +kernel
theorem dX6_step_147 : decode cX6_step 147 = .ok (.getfield 41, 3) := by decide +kernel
theorem dX6_step_150 : decode cX6_step 150 = .ok (.aload_n 0, 1) := by decide +kernel
theorem dX6_step_151 : decode cX6_step 151 = .ok (.getfield 50, 3) := by decide +kernel
theorem dX6_step_154 : decode cX6_step 154 = .ok (.iload_n 2, 1) := by decide +kernel
theorem dX6_step_155 : decode cX6_step 155 = .ok (.iaload, 1) := by decide +kernel
theorem dX6_step_156 : decode cX6_step 156 = .ok (.dup2, 1) := by decide +kernel
theorem dX6_step_157 : decode cX6_step 157 = .ok (.iaload, 1) := by decide +kernel
theorem dX6_step_158 : decode cX6_step 158 = .ok (.iload_n 3, 1) := by decide +kernel
theorem dX6_step_159 : decode cX6_step 159 = .ok (.isub, 1) := by decide +kernel
theorem dX6_step_160 : decode cX6_step 160 = .ok (.iastore, 1) := by decide +kernel
theorem dX6_step_161 : decode cX6_step 161 = .ok (.aload_n 0, 1) := by decide +kernel
theorem dX6_step_162 : decode cX6_step 162 = .ok (.getfield 47, 3) := by decide +kernel
theorem dX6_step_165 : decode cX6_step 165 = .ok (.aload_n 0, 1) := by decide +kernel
theorem dX6_step_166 : decode cX6_step 166 = .ok (.getfield 50, 3) := by decide +kernel
theorem dX6_step_169 : decode cX6_step 169 = .ok (.iload_n 2, 1) := by decide +kernel
theorem dX6_step_170 : decode cX6_step 170 = .ok (.iaload, 1) := by decide +kernel
theorem dX6_step_171 : decode cX6_step 171 = .ok (.dup2, 1) := by decide +kernel
theorem dX6_step_172 : decode cX6_step 172 = .ok (.iaload, 1) := by decide +kernel
theorem dX6_step_173 : decode cX6_step 173 = .ok (.iload_n 3, 1) := by decide +kernel
theorem dX6_step_174 : decode cX6_step 174 = .ok (.iadd, 1) := by decide +kernel
theorem dX6_step_175 : decode cX6_step 175 = .ok (.iastore, 1) := by decide +kernel
theorem dX6_step_176 : decode cX6_step 176 = .ok (.aload_n 0, 1) := by decide +kernel
theorem dX6_step_177 : decode cX6_step 177 = .ok (.getfield 62, 3) := by decide +kernel
theorem dX6_step_180 : decode cX6_step 180 = .ok (.iload_n 2, 1) := by decide +kernel
theorem dX6_step_181 : decode cX6_step 181 = .ok (.dup2, 1) := by decide +kernel
theorem dX6_step_182 : decode cX6_step 182 = .ok (.iaload, 1) := by decide +kernel
theorem dX6_step_183 : decode cX6_step 183 = .ok (.iload_n 3, 1) := by decide +kernel
theorem dX6_step_184 : decode cX6_step 184 = .ok (.iadd, 1) := by decide +kernel
theorem dX6_step_185 : decode cX6_step 185 = .ok (.iastore, 1) := by decide +kernel
theorem dX6_step_186 : decode cX6_step 186 = .ok (.aload_n 0, 1) := by decide +kernel
theorem dX6_step_187 : decode cX6_step 187 = .ok (.getfield 23, 3) := by decide +kernel
theorem dX6_step_190 : decode cX6_step 190 = .ok (.aload_n 0, 1) := by decide +kernel
theorem dX6_step_191 : decode cX6_step 191 = .ok (.getfield 53, 3) := by decide +kernel
theorem dX6_step_194 : decode cX6_step 194 = .ok (.iload_n 2, 1) := by decide +kernel
theorem dX6_step_195 : decode cX6_step 195 = .ok (.iaload, 1) := by decide +kernel
theorem dX6_step_196 : decode cX6_step 196 = .ok (.dup2, 1) := by decide +kernel
theorem dX6_step_197 : decode cX6_step 197 = .ok (.iaload, 1) := by decide +kernel
theorem dX6_step_198 : decode cX6_step 198 = .ok (.iload_n 3, 1) := by decide +kernel
theorem dX6_step_199 : decode cX6_step 199 = .ok (.iadd, 1) := by decide +kernel
theorem dX6_step_200 : decode cX6_step 200 = .ok (.iastore, 1) := by decide +kernel
theorem dX6_step_201 : decode cX6_step 201 = .ok (.iload_n 1, 1) := by decide +kernel
theorem dX6_step_202 : decode cX6_step 202 = .ok (.iload_n 3, 1) := by decide +kernel
theorem dX6_step_203 : decode cX6_step 203 = .ok (.iadd, 1) := by decide +kernel
theorem dX6_step_204 : decode cX6_step 204 = .ok (.istore_n 1, 1) := by decide +kernel
theorem dX6_step_205 : decode cX6_step 205 = .ok (.iinc 2 1, 3) := by decide +kernel
theorem dX6_step_208 : decode cX6_step 208 = .ok (.goto (-120), 3) := by decide +kernel
theorem dX6_step_211 : decode cX6_step 211 = .ok (.aload_n 0, 1) := by decide +kernel
theorem dX6_step_212 : decode cX6_step 212 = .ok (.dup, 1) := by decide +kernel
theorem dX6_step_213 : decode cX6_step 213 = .ok (.getfield 93, 3) := by decide +kernel
theorem dX6_step_216 : decode cX6_step 216 = .ok (.iconst 1, 1) := by decide +kernel
theorem dX6_step_217 : decode cX6_step 217 = .ok (.iadd, 1) := by decide +kernel
theorem dX6_step_218 : decode cX6_step 218 = .ok (.putfield 93, 3) := by decide +kernel
theorem dX6_step_221 : decode cX6_step 221 = .ok (.iload_n 1, 1) := by decide +kernel
theorem dX6_step_222 : decode cX6_step 222 = .ok (.ireturn, 1) := by decide +kernel
set_option maxRecDepth 20000 in
theorem ggX6_run_X6_isIn : GoodIn wsX6_run wsX6_isIn := goodIn_r _ [6] (by decide +kernel) (by decide +kernel)
set_option maxRecDepth 20000 in
theorem gX6_run_X6_isIn : GoodIn wsX6_run (va_wsS RX6 71 yX6_isIn wsX6_isIn) := goodIn_app (goodIn_of _ (by decide +kernel)) ggX6_run_X6_isIn
set_option maxRecDepth 20000 in
theorem ggX6_run_X6_fail : GoodIn wsX6_run wsX6_fail := goodIn_r _ [10, 1, 59, 60, 61, 62, 63, 64, 65, 66, 67, 68, 69, 70, 71, 72, 73, 74, 75, 76, 77, 78, 79, 80, 81, 82, 83, 84] (by decide +kernel) (by decide +kernel)
set_option maxRecDepth 20000 in
theorem gX6_run_X6_fail : GoodIn wsX6_run (wsV RX6 81 RX6 yX6_fail wsX6_fail) := goodIn_app (goodIn_of _ (by decide +kernel)) ggX6_run_X6_fail
set_option maxRecDepth 20000 in
theorem ggX6_run_X6_step : GoodIn wsX6_run wsX6_step := goodIn_r _ [14, 15, 16, 17, 18, 19, 20, 21, 22, 23, 24, 25, 26, 27, 28, 29, 30, 31, 32, 33, 34, 2, 35, 36, 37, 5, 38, 39, 40, 41, 42, 43, 44, 45, 46, 47, 48, 49, 50, 51, 52, 53, 54, 55, 56, 57, 58, 3, 4, 6, 59, 60, 61, 62, 63, 64, 65, 66, 67, 68, 69, 70, 71, 72, 73, 74, 75, 76, 77, 78, 79, 80, 81, 82, 83, 84] (by decide +kernel) (by decide +kernel)
set_option maxRecDepth 20000 in
theorem gX6_run_X6_step : GoodIn wsX6_run (wsV RX6 167 RX6 yX6_step wsX6_step) := goodIn_app (goodIn_of _ (by decide +kernel)) ggX6_run_X6_step
theorem dX6_run_0 : decode cX6_run 0 = .ok (.aload_n 0, 1) := by decide +kernel
theorem dX6_run_1 : decode cX6_run 1 = .ok (.iconst 0, 1) := by decide +kernel
theorem dX6_run_2 : decode cX6_run 2 = .ok (.putfield 65, 3) := by decide +kernel
theorem dX6_run_5 : decode cX6_run 5 = .ok (.iload_n 1, 1) := by decide +kernel
theorem dX6_run_6 : decode cX6_run 6 = .ok (.iconst 1, 1) := by decide +kernel
theorem dX6_run_7 : decode cX6_run 7 = .ok (.sipush 500, 3) := by decide +kernel
theorem dX6_run_10 : decode cX6_run 10 = .ok (.invokestatic 71, 3) := by decide +kernel
theorem dX6_run_13 : decode cX6_run 13 = .ok (.ifCond .ne 9, 3) := by decide +kernel
theorem dX6_run_16 : decode cX6_run 16 = .ok (.aload_n 0, 1) := by decide +kernel
theorem dX6_run_17 : decode cX6_run 17 = .ok (.iconst 1, 1) := by decide +kernel
theorem dX6_run_18 : decode cX6_run 18 = .ok (.invokevirtual 81, 3) := by decide +kernel
theorem dX6_run_21 : decode cX6_run 21 = .ok (.ireturn, 1) := by decide +kernel
theorem dX6_run_22 : decode cX6_run 22 = .ok (.aload_n 0, 1) := by decide +kernel
theorem dX6_run_23 : decode cX6_run 23 = .ok (.getfield 93, 3) := by decide +kernel
theorem dX6_run_26 : decode cX6_run 26 = .ok (.iload_n 1, 1) := by decide +kernel
theorem dX6_run_27 : decode cX6_run 27 = .ok (.iadd, 1) := by decide +kernel
theorem dX6_run_28 : decode cX6_run 28 = .ok (.sipush 9999, 3) := by decide +kernel
theorem dX6_run_31 : decode cX6_run 31 = .ok (.if_icmp .le 9, 3) := by decide +kernel
theorem dX6_run_34 : decode cX6_run 34 = .ok (.aload_n 0, 1) := by decide +kernel
theorem dX6_run_35 : decode cX6_run 35 = .ok (.iconst 2, 1) := by decide +kernel
theorem dX6_run_36 : decode cX6_run 36 = .ok (.invokevirtual 81, 3) := by decide +kernel
theorem dX6_run_39 : decode cX6_run 39 = .ok (.ireturn, 1) := by decide +kernel
theorem dX6_run_40 : decode cX6_run 40 = .ok (.iconst 0, 1) := by decide +kernel
theorem dX6_run_41 : decode cX6_run 41 = .ok (.istore_n 2, 1) := by decide +kernel
theorem dX6_run_42 : decode cX6_run 42 = .ok (.iconst 0, 1) := by decide +kernel
theorem dX6_run_43 : decode cX6_run 43 = .ok (.istore_n 3, 1) := by decide +kernel
theorem dX6_run_44 : decode cX6_run 44 = .ok (.iload_n 3, 1) := by decide +kernel
theorem dX6_run_45 : decode cX6_run 45 = .ok (.iload_n 1, 1) := by decide +kernel
theorem dX6_run_46 : decode cX6_run 46 = .ok (.if_icmp .ge 16, 3) := by decide +kernel
theorem dX6_run_49 : decode cX6_run 49 = .ok (.iload_n 2, 1) := by decide +kernel
theorem dX6_run_50 : decode cX6_run 50 = .ok (.aload_n 0, 1) := by decide +kernel
theorem dX6_run_51 : decode cX6_run 51 = .ok (.invokevirtual 167, 3) := by decide +kernel
theorem dX6_run_54 : decode cX6_run 54 = .ok (.iadd, 1) := by decide +kernel
theorem dX6_run_55 : decode cX6_run 55 = .ok (.istore_n 2, 1) := by decide +kernel
theorem dX6_run_56 : decode cX6_run 56 = .ok (.iinc 3 1, 3) := by decide +kernel
theorem dX6_run_59 : decode cX6_run 59 = .ok (.goto (-15), 3) := by decide +kernel
theorem dX6_run_62 : decode cX6_run 62 = .ok (.iload_n 2, 1) := by decide +kernel
theorem dX6_run_63 : decode cX6_run 63 = .ok (.ireturn, 1) := by decide +kernel
theorem dX6_now_0 : decode cX6_now 0 = .ok (.aload_n 0, 1) := by decide +kernel
theorem dX6_now_1 : decode cX6_now 1 = .ok (.iconst 0, 1) := by decide +kernel
theorem dX6_now_2 : decode cX6_now 2 = .ok (.putfield 65, 3) := by decide +kernel
theorem dX6_now_5 : decode cX6_now 5 = .ok (.aload_n 0, 1) := by decide +kernel
theorem dX6_now_6 : decode cX6_now 6 = .ok (.getfield 93, 3) := by decide +kernel
theorem dX6_now_9 : decode cX6_now 9 = .ok (.ireturn, 1) := by decide +kernel
theorem dX6_fullBehind_0 : decode cX6_fullBehind 0 = .ok (.aload_n 0, 1) := by decide +kernel
theorem dX6_fullBehind_1 : decode cX6_fullBehind 1 = .ok (.getfield 41, 3) := by decide +kernel
theorem dX6_fullBehind_4 : decode cX6_fullBehind 4 = .ok (.iload_n 1, 1) := by decide +kernel
theorem dX6_fullBehind_5 : decode cX6_fullBehind 5 = .ok (.iaload, 1) := by decide +kernel
theorem dX6_fullBehind_6 : decode cX6_fullBehind 6 = .ok (.aload_n 0, 1) := by decide +kernel
theorem dX6_fullBehind_7 : decode cX6_fullBehind 7 = .ok (.getfield 38, 3) := by decide +kernel
theorem dX6_fullBehind_10 : decode cX6_fullBehind 10 = .ok (.iload_n 1, 1) := by decide +kernel
theorem dX6_fullBehind_11 : decode cX6_fullBehind 11 = .ok (.iaload, 1) := by decide +kernel
theorem dX6_fullBehind_12 : decode cX6_fullBehind 12 = .ok (.if_icmp .eq 12, 3) := by decide +kernel
theorem dX6_fullBehind_15 : decode cX6_fullBehind 15 = .ok (.aload_n 0, 1) := by decide +kernel
theorem dX6_fullBehind_16 : decode cX6_fullBehind 16 = .ok (.getfield 35, 3) := by decide +kernel
theorem dX6_fullBehind_19 : decode cX6_fullBehind 19 = .ok (.iload_n 1, 1) := by decide +kernel
theorem dX6_fullBehind_20 : decode cX6_fullBehind 20 = .ok (.iaload, 1) := by decide +kernel
theorem dX6_fullBehind_21 : decode cX6_fullBehind 21 = .ok (.ifCond .ne 5, 3) := by decide +kernel
theorem dX6_fullBehind_24 : decode cX6_fullBehind 24 = .ok (.iconst (-1), 1) := by decide +kernel
theorem dX6_fullBehind_25 : decode cX6_fullBehind 25 = .ok (.ireturn, 1) := by decide +kernel
theorem dX6_fullBehind_26 : decode cX6_fullBehind 26 = .ok (.aload_n 0, 1) := by decide +kernel
theorem dX6_fullBehind_27 : decode cX6_fullBehind 27 = .ok (.getfield 93, 3) := by decide +kernel
theorem dX6_fullBehind_30 : decode cX6_fullBehind 30 = .ok (.aload_n 0, 1) := by decide +kernel
theorem dX6_fullBehind_31 : decode cX6_fullBehind 31 = .ok (.getfield 38, 3) := by decide +kernel
theorem dX6_fullBehind_34 : decode cX6_fullBehind 34 = .ok (.iload_n 1, 1) := by decide +kernel
theorem dX6_fullBehind_35 : decode cX6_fullBehind 35 = .ok (.iaload, 1) := by decide +kernel
theorem dX6_fullBehind_36 : decode cX6_fullBehind 36 = .ok (.aload_n 0, 1) := by decide +kernel
theorem dX6_fullBehind_37 : decode cX6_fullBehind 37 = .ok (.getfield 41, 3) := by decide +kernel
theorem dX6_fullBehind_40 : decode cX6_fullBehind 40 = .ok (.iload_n 1, 1) := by decide +kernel
theorem dX6_fullBehind_41 : decode cX6_fullBehind 41 = .ok (.iaload, 1) := by decide +kernel
theorem dX6_fullBehind_42 : decode cX6_fullBehind 42 = .ok (.isub, 1) := by decide +kernel
theorem dX6_fullBehind_43 : decode cX6_fullBehind 43 = .ok (.aload_n 0, 1) := by decide +kernel
theorem dX6_fullBehind_44 : decode cX6_fullBehind 44 = .ok (.getfield 35, 3) := by decide +kernel
theorem dX6_fullBehind_47 : decode cX6_fullBehind 47 = .ok (.iload_n 1, 1) := by decide +kernel
