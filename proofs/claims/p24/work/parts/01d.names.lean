theorem dX5_isFree_42 : decode cX5_isFree 42 = .ok (.ifCond .ne 7, 3) := by decide +kernel
theorem dX5_isFree_45 : decode cX5_isFree 45 = .ok (.iconst 1, 1) := by decide +kernel
theorem dX5_isFree_46 : decode cX5_isFree 46 = .ok (.goto 4, 3) := by decide +kernel
theorem dX5_isFree_49 : decode cX5_isFree 49 = .ok (.iconst 0, 1) := by decide +kernel
theorem dX5_isFree_50 : decode cX5_isFree 50 = .ok (.ireturn, 1) := by decide +kernel
set_option maxRecDepth 20000 in
theorem ggX5_isInConflictWithTaken_Jx4a65c_size_8abf5 : GoodIn wsX5_isInConflictWithTaken wsJx4a65c_size_8abf5 := goodIn_r _ [8, 9, 59, 60, 61] (by decide +kernel) (by decide +kernel)
set_option maxRecDepth 20000 in
theorem gX5_isInConflictWithTaken_Jx4a65c_size_8abf5 : GoodIn wsX5_isInConflictWithTaken (wsV RX5 50 RJx4a65c yJx4a65c_size_8abf5 wsJx4a65c_size_8abf5) := goodIn_app (goodIn_of _ (by decide +kernel)) ggX5_isInConflictWithTaken_Jx4a65c_size_8abf5
set_option maxRecDepth 20000 in
theorem ggX5_isInConflictWithTaken_Jx4a65c_get_915e3 : GoodIn wsX5_isInConflictWithTaken wsJx4a65c_get_915e3 := goodIn_r _ [13, 9, 14, 15, 16, 17, 18, 19, 20, 21, 22, 23, 24, 7, 25, 26, 59, 60, 61] (by decide +kernel) (by decide +kernel)
set_option maxRecDepth 20000 in
theorem gX5_isInConflictWithTaken_Jx4a65c_get_915e3 : GoodIn wsX5_isInConflictWithTaken (wsV RX5 191 RJx4a65c yJx4a65c_get_915e3 wsJx4a65c_get_915e3) := goodIn_app (goodIn_of _ (by decide +kernel)) ggX5_isInConflictWithTaken_Jx4a65c_get_915e3
set_option maxRecDepth 20000 in
theorem ggX5_isInConflictWithTaken_X5_areInConflict : GoodIn wsX5_isInConflictWithTaken wsX5_areInConflict := goodIn_r _ [31, 32, 33, 34, 35, 36, 37, 38, 39, 40, 41, 42, 43, 44, 52, 53, 54, 55, 56, 57, 58, 62, 63, 64, 65, 66, 45, 46, 47, 48, 49, 50, 51] (by decide +kernel) (by decide +kernel)
set_option maxRecDepth 20000 in
theorem gX5_isInConflictWithTaken_X5_areInConflict : GoodIn wsX5_isInConflictWithTaken (wsV RX5 169 RX5 yX5_areInConflict wsX5_areInConflict) := goodIn_app (goodIn_of _ (by decide +kernel)) ggX5_isInConflictWithTaken_X5_areInConflict
theorem dX5_isInConflictWithTaken_0 : decode cX5_isInConflictWithTaken 0 = .ok (.iconst 0, 1) := by decide +kernel
theorem dX5_isInConflictWithTaken_1 : decode cX5_isInConflictWithTaken 1 = .ok (.istore_n 2, 1) := by decide +kernel
theorem dX5_isInConflictWithTaken_2 : decode cX5_isInConflictWithTaken 2 = .ok (.iload_n 2, 1) := by decide +kernel
theorem dX5_isInConflictWithTaken_3 : decode cX5_isInConflictWithTaken 3 = .ok (.aload_n 0, 1) := by decide +kernel
theorem dX5_isInConflictWithTaken_4 : decode cX5_isInConflictWithTaken 4 = .ok (.getfield 19, 3) := by decide +kernel
theorem dX5_isInConflictWithTaken_7 : decode cX5_isInConflictWithTaken 7 = .ok (.invokevirtual 50, 3) := by decide +kernel
theorem dX5_isInConflictWithTaken_10 : decode cX5_isInConflictWithTaken 10 = .ok (.if_icmp .ge 44, 3) := by decide +kernel
theorem dX5_isInConflictWithTaken_13 : decode cX5_isInConflictWithTaken 13 = .ok (.aload_n 0, 1) := by decide +kernel
theorem dX5_isInConflictWithTaken_14 : decode cX5_isInConflictWithTaken 14 = .ok (.getfield 19, 3) := by decide +kernel
theorem dX5_isInConflictWithTaken_17 : decode cX5_isInConflictWithTaken 17 = .ok (.iload_n 2, 1) := by decide +kernel
theorem dX5_isInConflictWithTaken_18 : decode cX5_isInConflictWithTaken 18 = .ok (.invokevirtual 191, 3) := by decide +kernel
theorem dX5_isInConflictWithTaken_21 : decode cX5_isInConflictWithTaken 21 = .ok (.checkcast 106, 3) := by decide +kernel
theorem dX5_isInConflictWithTaken_24 : decode cX5_isInConflictWithTaken 24 = .ok (.astore_n 3, 1) := by decide +kernel
theorem dX5_isInConflictWithTaken_25 : decode cX5_isInConflictWithTaken 25 = .ok (.aload_n 3, 1) := by decide +kernel
theorem dX5_isInConflictWithTaken_26 : decode cX5_isInConflictWithTaken 26 = .ok (.aload_n 1, 1) := by decide +kernel
theorem dX5_isInConflictWithTaken_27 : decode cX5_isInConflictWithTaken 27 = .ok (.if_acmp .eq 21, 3) := by decide +kernel
theorem dX5_isInConflictWithTaken_30 : decode cX5_isInConflictWithTaken 30 = .ok (.aload_n 3, 1) := by decide +kernel
theorem dX5_isInConflictWithTaken_31 : decode cX5_isInConflictWithTaken 31 = .ok (.getfield 154, 3) := by decide +kernel
theorem dX5_isInConflictWithTaken_34 : decode cX5_isInConflictWithTaken 34 = .ok (.ifCond .eq 14, 3) := by decide +kernel
theorem dX5_isInConflictWithTaken_37 : decode cX5_isInConflictWithTaken 37 = .ok (.aload_n 0, 1) := by decide +kernel
theorem dX5_isInConflictWithTaken_38 : decode cX5_isInConflictWithTaken 38 = .ok (.aload_n 1, 1) := by decide +kernel
theorem dX5_isInConflictWithTaken_39 : decode cX5_isInConflictWithTaken 39 = .ok (.aload_n 3, 1) := by decide +kernel
theorem dX5_isInConflictWithTaken_40 : decode cX5_isInConflictWithTaken 40 = .ok (.invokevirtual 169, 3) := by decide +kernel
theorem dX5_isInConflictWithTaken_43 : decode cX5_isInConflictWithTaken 43 = .ok (.ifCond .eq 5, 3) := by decide +kernel
theorem dX5_isInConflictWithTaken_46 : decode cX5_isInConflictWithTaken 46 = .ok (.iconst 1, 1) := by decide +kernel
theorem dX5_isInConflictWithTaken_47 : decode cX5_isInConflictWithTaken 47 = .ok (.ireturn, 1) := by decide +kernel
theorem dX5_isInConflictWithTaken_48 : decode cX5_isInConflictWithTaken 48 = .ok (.iinc 2 1, 3) := by decide +kernel
theorem dX5_isInConflictWithTaken_51 : decode cX5_isInConflictWithTaken 51 = .ok (.goto (-49), 3) := by decide +kernel
theorem dX5_isInConflictWithTaken_54 : decode cX5_isInConflictWithTaken 54 = .ok (.iconst 0, 1) := by decide +kernel
theorem dX5_isInConflictWithTaken_55 : decode cX5_isInConflictWithTaken 55 = .ok (.ireturn, 1) := by decide +kernel
set_option maxRecDepth 20000 in
theorem ggX5_areFreeTogether_Jx4a65c_size_8abf5 : GoodIn wsX5_areFreeTogether wsJx4a65c_size_8abf5 := goodIn_r _ [7, 8, 82, 83, 84] (by decide +kernel) (by decide +kernel)
set_option maxRecDepth 20000 in
theorem gX5_areFreeTogether_Jx4a65c_size_8abf5 : GoodIn wsX5_areFreeTogether (wsV RX5 50 RJx4a65c yJx4a65c_size_8abf5 wsJx4a65c_size_8abf5) := goodIn_app (goodIn_of _ (by decide +kernel)) ggX5_areFreeTogether_Jx4a65c_size_8abf5
set_option maxRecDepth 20000 in
theorem ggX5_areFreeTogether_X5_contains : GoodIn wsX5_areFreeTogether wsX5_contains := goodIn_r _ [12] (by decide +kernel) (by decide +kernel)
set_option maxRecDepth 20000 in
theorem gX5_areFreeTogether_X5_contains : GoodIn wsX5_areFreeTogether (va_wsS RX5 98 yX5_contains wsX5_contains) := goodIn_app (goodIn_of _ (by decide +kernel)) ggX5_areFreeTogether_X5_contains
set_option maxRecDepth 20000 in
theorem ggX5_areFreeTogether_Jx4a65c_get_915e3 : GoodIn wsX5_areFreeTogether wsJx4a65c_get_915e3 := goodIn_r _ [16, 8, 17, 18, 19, 20, 21, 22, 23, 24, 25, 26, 27, 6, 28, 29, 82, 83, 84] (by decide +kernel) (by decide +kernel)
set_option maxRecDepth 20000 in
theorem gX5_areFreeTogether_Jx4a65c_get_915e3 : GoodIn wsX5_areFreeTogether (wsV RX5 191 RJx4a65c yJx4a65c_get_915e3 wsJx4a65c_get_915e3) := goodIn_app (goodIn_of _ (by decide +kernel)) ggX5_areFreeTogether_Jx4a65c_get_915e3
set_option maxRecDepth 20000 in
theorem ggX5_areFreeTogether_X5_isFree : GoodIn wsX5_areFreeTogether wsX5_isFree := goodIn_r _ [33, 34, 35, 36, 37, 38, 39, 40, 41, 11, 42, 43, 44, 45, 3, 4, 5, 6, 7, 8, 13, 14, 15, 16, 17, 18, 19, 20, 21, 22, 23, 24, 25, 26, 27, 28, 29, 46, 47, 48, 49, 50, 51, 52, 53, 54, 55, 56, 1, 2, 57, 58, 59, 60, 61, 62, 63, 64, 65, 66, 67, 68, 69, 70, 85, 86, 87, 88, 89, 90, 91, 75, 76, 77, 78, 79, 80, 81, 82, 83, 84, 92, 93, 94, 95, 96] (by decide +kernel) (by decide +kernel)
set_option maxRecDepth 20000 in
theorem gX5_areFreeTogether_X5_isFree : GoodIn wsX5_areFreeTogether (wsV RX5 173 RX5 yX5_isFree wsX5_isFree) := goodIn_app (goodIn_of _ (by decide +kernel)) ggX5_areFreeTogether_X5_isFree
set_option maxRecDepth 20000 in
theorem ggX5_areFreeTogether_X5_conflictsOf : GoodIn wsX5_areFreeTogether wsX5_conflictsOf := goodIn_r _ [74, 1, 2, 3, 4, 5, 6, 7, 8, 13, 14, 15, 16, 17, 18, 19, 20, 21, 22, 23, 24, 25, 26, 27, 28, 29, 57, 58, 59, 11, 60, 37, 35, 38, 61, 62, 63, 64, 65, 66, 67, 68, 69, 70, 75, 76, 77, 78, 79, 80, 81, 82, 83, 84, 85, 86, 87, 88, 89, 90, 91, 92, 93, 94, 95, 96] (by decide +kernel) (by decide +kernel)
set_option maxRecDepth 20000 in
theorem gX5_areFreeTogether_X5_conflictsOf : GoodIn wsX5_areFreeTogether (wsV RX5 279 RX5 yX5_conflictsOf wsX5_conflictsOf) := goodIn_app (goodIn_of _ (by decide +kernel)) ggX5_areFreeTogether_X5_conflictsOf
theorem dX5_areFreeTogether_0 : decode cX5_areFreeTogether 0 = .ok (.iconst 0, 1) := by decide +kernel
theorem dX5_areFreeTogether_1 : decode cX5_areFreeTogether 1 = .ok (.istore_n 2, 1) := by decide +kernel
theorem dX5_areFreeTogether_2 : decode cX5_areFreeTogether 2 = .ok (.iload_n 2, 1) := by decide +kernel
theorem dX5_areFreeTogether_3 : decode cX5_areFreeTogether 3 = .ok (.aload_n 0, 1) := by decide +kernel
theorem dX5_areFreeTogether_4 : decode cX5_areFreeTogether 4 = .ok (.getfield 19, 3) := by decide +kernel
theorem dX5_areFreeTogether_7 : decode cX5_areFreeTogether 7 = .ok (.invokevirtual 50, 3) := by decide +kernel
theorem dX5_areFreeTogether_10 : decode cX5_areFreeTogether 10 = .ok (.if_icmp .ge 49, 3) := by decide +kernel
theorem dX5_areFreeTogether_13 : decode cX5_areFreeTogether 13 = .ok (.iload_n 1, 1) := by decide +kernel
theorem dX5_areFreeTogether_14 : decode cX5_areFreeTogether 14 = .ok (.iload_n 2, 1) := by decide +kernel
theorem dX5_areFreeTogether_15 : decode cX5_areFreeTogether 15 = .ok (.invokestatic 98, 3) := by decide +kernel
theorem dX5_areFreeTogether_18 : decode cX5_areFreeTogether 18 = .ok (.ifCond .eq 35, 3) := by decide +kernel
theorem dX5_areFreeTogether_21 : decode cX5_areFreeTogether 21 = .ok (.aload_n 0, 1) := by decide +kernel
theorem dX5_areFreeTogether_22 : decode cX5_areFreeTogether 22 = .ok (.getfield 19, 3) := by decide +kernel
theorem dX5_areFreeTogether_25 : decode cX5_areFreeTogether 25 = .ok (.iload_n 2, 1) := by decide +kernel
theorem dX5_areFreeTogether_26 : decode cX5_areFreeTogether 26 = .ok (.invokevirtual 191, 3) := by decide +kernel
theorem dX5_areFreeTogether_29 : decode cX5_areFreeTogether 29 = .ok (.checkcast 106, 3) := by decide +kernel
theorem dX5_areFreeTogether_32 : decode cX5_areFreeTogether 32 = .ok (.astore_n 3, 1) := by decide +kernel
theorem dX5_areFreeTogether_33 : decode cX5_areFreeTogether 33 = .ok (.aload_n 0, 1) := by decide +kernel
theorem dX5_areFreeTogether_34 : decode cX5_areFreeTogether 34 = .ok (.aload_n 3, 1) := by decide +kernel
theorem dX5_areFreeTogether_35 : decode cX5_areFreeTogether 35 = .ok (.invokevirtual 173, 3) := by decide +kernel
theorem dX5_areFreeTogether_38 : decode cX5_areFreeTogether 38 = .ok (.ifCond .eq 13, 3) := by decide +kernel
theorem dX5_areFreeTogether_41 : decode cX5_areFreeTogether 41 = .ok (.aload_n 0, 1) := by decide +kernel
theorem dX5_areFreeTogether_42 : decode cX5_areFreeTogether 42 = .ok (.aload_n 3, 1) := by decide +kernel
theorem dX5_areFreeTogether_43 : decode cX5_areFreeTogether 43 = .ok (.invokevirtual 279, 3) := by decide +kernel
theorem dX5_areFreeTogether_46 : decode cX5_areFreeTogether 46 = .ok (.iload_n 1, 1) := by decide +kernel
theorem dX5_areFreeTogether_47 : decode cX5_areFreeTogether 47 = .ok (.iand, 1) := by decide +kernel
theorem dX5_areFreeTogether_48 : decode cX5_areFreeTogether 48 = .ok (.ifCond .eq 5, 3) := by decide +kernel
theorem dX5_areFreeTogether_51 : decode cX5_areFreeTogether 51 = .ok (.iconst 0, 1) := by decide +kernel
theorem dX5_areFreeTogether_52 : decode cX5_areFreeTogether 52 = .ok (.ireturn, 1) := by decide +kernel
theorem dX5_areFreeTogether_53 : decode cX5_areFreeTogether 53 = .ok (.iinc 2 1, 3) := by decide +kernel
theorem dX5_areFreeTogether_56 : decode cX5_areFreeTogether 56 = .ok (.goto (-54), 3) := by decide +kernel
theorem dX5_areFreeTogether_59 : decode cX5_areFreeTogether 59 = .ok (.iconst 1, 1) := by decide +kernel
theorem dX5_areFreeTogether_60 : decode cX5_areFreeTogether 60 = .ok (.ireturn, 1) := by decide +kernel
set_option maxRecDepth 20000 in
theorem ggX5_conflictsOf_Jx4a65c_size_8abf5 : GoodIn wsX5_conflictsOf wsJx4a65c_size_8abf5 := goodIn_r _ [7, 8, 51, 52, 53] (by decide +kernel) (by decide +kernel)
set_option maxRecDepth 20000 in
theorem gX5_conflictsOf_Jx4a65c_size_8abf5 : GoodIn wsX5_conflictsOf (wsV RX5 50 RJx4a65c yJx4a65c_size_8abf5 wsJx4a65c_size_8abf5) := goodIn_app (goodIn_of _ (by decide +kernel)) ggX5_conflictsOf_Jx4a65c_size_8abf5
set_option maxRecDepth 20000 in
theorem ggX5_conflictsOf_Jx4a65c_get_915e3 : GoodIn wsX5_conflictsOf wsJx4a65c_get_915e3 := goodIn_r _ [12, 8, 13, 14, 15, 16, 17, 18, 19, 20, 21, 22, 23, 6, 24, 25, 51, 52, 53] (by decide +kernel) (by decide +kernel)
set_option maxRecDepth 20000 in
theorem gX5_conflictsOf_Jx4a65c_get_915e3 : GoodIn wsX5_conflictsOf (wsV RX5 191 RJx4a65c yJx4a65c_get_915e3 wsJx4a65c_get_915e3) := goodIn_app (goodIn_of _ (by decide +kernel)) ggX5_conflictsOf_Jx4a65c_get_915e3
set_option maxRecDepth 20000 in
theorem ggX5_conflictsOf_X5_areInConflict : GoodIn wsX5_conflictsOf wsX5_areInConflict := goodIn_r _ [30, 31, 32, 33, 34, 35, 36, 37, 38, 39, 40, 41, 42, 43, 54, 55, 56, 57, 58, 59, 60, 61, 62, 63, 64, 65, 44, 45, 46, 47, 48, 49, 50] (by decide +kernel) (by decide +kernel)
set_option maxRecDepth 20000 in
theorem gX5_conflictsOf_X5_areInConflict : GoodIn wsX5_conflictsOf (wsV RX5 169 RX5 yX5_areInConflict wsX5_areInConflict) := goodIn_app (goodIn_of _ (by decide +kernel)) ggX5_conflictsOf_X5_areInConflict
theorem dX5_conflictsOf_0 : decode cX5_conflictsOf 0 = .ok (.iconst 0, 1) := by decide +kernel
theorem dX5_conflictsOf_1 : decode cX5_conflictsOf 1 = .ok (.istore_n 2, 1) := by decide +kernel
theorem dX5_conflictsOf_2 : decode cX5_conflictsOf 2 = .ok (.iconst 0, 1) := by decide +kernel
theorem dX5_conflictsOf_3 : decode cX5_conflictsOf 3 = .ok (.istore_n 3, 1) := by decide +kernel
theorem dX5_conflictsOf_4 : decode cX5_conflictsOf 4 = .ok (.iload_n 3, 1) := by decide +kernel
theorem dX5_conflictsOf_5 : decode cX5_conflictsOf 5 = .ok (.aload_n 0, 1) := by decide +kernel
theorem dX5_conflictsOf_6 : decode cX5_conflictsOf 6 = .ok (.getfield 19, 3) := by decide +kernel
theorem dX5_conflictsOf_9 : decode cX5_conflictsOf 9 = .ok (.invokevirtual 50, 3) := by decide +kernel
theorem dX5_conflictsOf_12 : decode cX5_conflictsOf 12 = .ok (.if_icmp .ge 44, 3) := by decide +kernel
theorem dX5_conflictsOf_15 : decode cX5_conflictsOf 15 = .ok (.aload_n 0, 1) := by decide +kernel
theorem dX5_conflictsOf_16 : decode cX5_conflictsOf 16 = .ok (.getfield 19, 3) := by decide +kernel
theorem dX5_conflictsOf_19 : decode cX5_conflictsOf 19 = .ok (.iload_n 3, 1) := by decide +kernel
theorem dX5_conflictsOf_20 : decode cX5_conflictsOf 20 = .ok (.invokevirtual 191, 3) := by decide +kernel
theorem dX5_conflictsOf_23 : decode cX5_conflictsOf 23 = .ok (.checkcast 106, 3) := by decide +kernel
theorem dX5_conflictsOf_26 : decode cX5_conflictsOf 26 = .ok (.astore 4, 2) := by decide +kernel
theorem dX5_conflictsOf_28 : decode cX5_conflictsOf 28 = .ok (.aload 4, 2) := by decide +kernel
theorem dX5_conflictsOf_30 : decode cX5_conflictsOf 30 = .ok (.aload_n 1, 1) := by decide +kernel
theorem dX5_conflictsOf_31 : decode cX5_conflictsOf 31 = .ok (.if_acmp .eq 19, 3) := by decide +kernel
theorem dX5_conflictsOf_34 : decode cX5_conflictsOf 34 = .ok (.aload_n 0, 1) := by decide +kernel
theorem dX5_conflictsOf_35 : decode cX5_conflictsOf 35 = .ok (.aload_n 1, 1) := by decide +kernel
theorem dX5_conflictsOf_36 : decode cX5_conflictsOf 36 = .ok (.aload 4, 2) := by decide +kernel
theorem dX5_conflictsOf_38 : decode cX5_conflictsOf 38 = .ok (.invokevirtual 169, 3) := by decide +kernel
theorem dX5_conflictsOf_41 : decode cX5_conflictsOf 41 = .ok (.ifCond .eq 9, 3) := by decide +kernel
theorem dX5_conflictsOf_44 : decode cX5_conflictsOf 44 = .ok (.iload_n 2, 1) := by decide +kernel
theorem dX5_conflictsOf_45 : decode cX5_conflictsOf 45 = .ok (.iconst 1, 1) := by decide +kernel
theorem dX5_conflictsOf_46 : decode cX5_conflictsOf 46 = .ok (.iload_n 3, 1) := by decide +kernel
theorem dX5_conflictsOf_47 : decode cX5_conflictsOf 47 = .ok (.ishl, 1) := by decide +kernel
theorem dX5_conflictsOf_48 : decode cX5_conflictsOf 48 = .ok (.ior, 1) := by decide +kernel
theorem dX5_conflictsOf_49 : decode cX5_conflictsOf 49 = .ok (.istore_n 2, 1) := by decide +kernel
theorem dX5_conflictsOf_50 : decode cX5_conflictsOf 50 = .ok (.iinc 3 1, 3) := by decide +kernel
theorem dX5_conflictsOf_53 : decode cX5_conflictsOf 53 = .ok (.goto (-49), 3) := by decide +kernel
theorem dX5_conflictsOf_56 : decode cX5_conflictsOf 56 = .ok (.iload_n 2, 1) := by decide +kernel
theorem dX5_conflictsOf_57 : decode cX5_conflictsOf 57 = .ok (.ireturn, 1) := by decide +kernel
set_option maxRecDepth 20000 in
theorem ggX5_takenSet_Jx4a65c_size_8abf5 : GoodIn wsX5_takenSet wsJx4a65c_size_8abf5 := goodIn_r _ [8, 9, 41, 42, 43] (by decide +kernel) (by decide +kernel)
set_option maxRecDepth 20000 in
theorem gX5_takenSet_Jx4a65c_size_8abf5 : GoodIn wsX5_takenSet (wsV RX5 50 RJx4a65c yJx4a65c_size_8abf5 wsJx4a65c_size_8abf5) := goodIn_app (goodIn_of _ (by decide +kernel)) ggX5_takenSet_Jx4a65c_size_8abf5
set_option maxRecDepth 20000 in
theorem ggX5_takenSet_Jx4a65c_get_915e3 : GoodIn wsX5_takenSet wsJx4a65c_get_915e3 := goodIn_r _ [13, 9, 14, 15, 16, 17, 18, 19, 20, 21, 22, 23, 24, 7, 25, 26, 41, 42, 43] (by decide +kernel) (by decide +kernel)
set_option maxRecDepth 20000 in
theorem gX5_takenSet_Jx4a65c_get_915e3 : GoodIn wsX5_takenSet (wsV RX5 191 RJx4a65c yJx4a65c_get_915e3 wsJx4a65c_get_915e3) := goodIn_app (goodIn_of _ (by decide +kernel)) ggX5_takenSet_Jx4a65c_get_915e3
theorem dX5_takenSet_0 : decode cX5_takenSet 0 = .ok (.iconst 0, 1) := by decide +kernel
theorem dX5_takenSet_1 : decode cX5_takenSet 1 = .ok (.istore_n 1, 1) := by decide +kernel
theorem dX5_takenSet_2 : decode cX5_takenSet 2 = .ok (.iconst 0, 1) := by decide +kernel
theorem dX5_takenSet_3 : decode cX5_takenSet 3 = .ok (.istore_n 2, 1) := by decide +kernel
theorem dX5_takenSet_4 : decode cX5_takenSet 4 = .ok (.iload_n 2, 1) := by decide +kernel
theorem dX5_takenSet_5 : decode cX5_takenSet 5 = .ok (.aload_n 0, 1) := by decide +kernel
theorem dX5_takenSet_6 : decode cX5_takenSet 6 = .ok (.getfield 19, 3) := by decide +kernel
theorem dX5_takenSet_9 : decode cX5_takenSet 9 = .ok (.invokevirtual 50, 3) := by decide +kernel
theorem dX5_takenSet_12 : decode cX5_takenSet 12 = .ok (.if_icmp .ge 32, 3) := by decide +kernel
theorem dX5_takenSet_15 : decode cX5_takenSet 15 = .ok (.aload_n 0, 1) := by decide +kernel
theorem dX5_takenSet_16 : decode cX5_takenSet 16 = .ok (.getfield 19, 3) := by decide +kernel
theorem dX5_takenSet_19 : decode cX5_takenSet 19 = .ok (.iload_n 2, 1) := by decide +kernel
theorem dX5_takenSet_20 : decode cX5_takenSet 20 = .ok (.invokevirtual 191, 3) := by decide +kernel
theorem dX5_takenSet_23 : decode cX5_takenSet 23 = .ok (.checkcast 106, 3) := by decide +kernel
theorem dX5_takenSet_26 : decode cX5_takenSet 26 = .ok (.getfield 154, 3) := by decide +kernel
theorem dX5_takenSet_29 : decode cX5_takenSet 29 = .ok (.ifCond .eq 9, 3) := by decide +kernel
theorem dX5_takenSet_32 : decode cX5_takenSet 32 = .ok (.iload_n 1, 1) := by decide +kernel
theorem dX5_takenSet_33 : decode cX5_takenSet 33 = .ok (.iconst 1, 1) := by decide +kernel
theorem dX5_takenSet_34 : decode cX5_takenSet 34 = .ok (.iload_n 2, 1) := by decide +kernel
theorem dX5_takenSet_35 : decode cX5_takenSet 35 = .ok (.ishl, 1) := by decide +kernel
theorem dX5_takenSet_36 : decode cX5_takenSet 36 = .ok (.ior, 1) := by decide +kernel
theorem dX5_takenSet_37 : decode cX5_takenSet 37 = .ok (.istore_n 1, 1) := by decide +kernel
theorem dX5_takenSet_38 : decode cX5_takenSet 38 = .ok (.iinc 2 1, 3) := by decide +kernel
theorem dX5_takenSet_41 : decode cX5_takenSet 41 = .ok (.goto (-37), 3) := by decide +kernel
theorem dX5_takenSet_44 : decode cX5_takenSet 44 = .ok (.iload_n 1, 1) := by decide +kernel
theorem dX5_takenSet_45 : decode cX5_takenSet 45 = .ok (.ireturn, 1) := by decide +kernel
set_option maxRecDepth 20000 in
theorem ggX5_startOf_Jx4a65c_size_8abf5 : GoodIn wsX5_startOf wsJx4a65c_size_8abf5 := goodIn_r _ [15, 16, 55, 56, 57] (by decide +kernel) (by decide +kernel)
set_option maxRecDepth 20000 in
theorem gX5_startOf_Jx4a65c_size_8abf5 : GoodIn wsX5_startOf (wsV RX5 50 RJx4a65c yJx4a65c_size_8abf5 wsJx4a65c_size_8abf5) := goodIn_app (goodIn_of _ (by decide +kernel)) ggX5_startOf_Jx4a65c_size_8abf5
set_option maxRecDepth 20000 in
theorem ggX5_startOf_Jx4a65c_get_915e3 : GoodIn wsX5_startOf wsJx4a65c_get_915e3 := goodIn_r _ [20, 16, 21, 22, 23, 24, 25, 26, 27, 28, 29, 30, 31, 14, 32, 33, 55, 56, 57] (by decide +kernel) (by decide +kernel)
set_option maxRecDepth 20000 in
theorem gX5_startOf_Jx4a65c_get_915e3 : GoodIn wsX5_startOf (wsV RX5 191 RJx4a65c yJx4a65c_get_915e3 wsJx4a65c_get_915e3) := goodIn_app (goodIn_of _ (by decide +kernel)) ggX5_startOf_Jx4a65c_get_915e3
set_option maxRecDepth 20000 in
theorem ggX5_startOf_X2_isEarlierThan : GoodIn wsX5_startOf wsX2_isEarlierThan := goodIn_r _ [38, 39, 40, 41, 42, 43, 44, 45, 46, 47] (by decide +kernel) (by decide +kernel)
set_option maxRecDepth 20000 in
theorem gX5_startOf_X2_isEarlierThan : GoodIn wsX5_startOf (wsV RX5 270 RX2 yX2_isEarlierThan wsX2_isEarlierThan) := goodIn_app (goodIn_of _ (by decide +kernel)) ggX5_startOf_X2_isEarlierThan
theorem dX5_startOf_0 : decode cX5_startOf 0 = .ok (.aload_n 1, 1) := by decide +kernel
theorem dX5_startOf_1 : decode cX5_startOf 1 = .ok (.getfield 145, 3) := by decide +kernel
theorem dX5_startOf_4 : decode cX5_startOf 4 = .ok (.istore_n 2, 1) := by decide +kernel
theorem dX5_startOf_5 : decode cX5_startOf 5 = .ok (.iconst 0, 1) := by decide +kernel
theorem dX5_startOf_6 : decode cX5_startOf 6 = .ok (.istore_n 3, 1) := by decide +kernel
theorem dX5_startOf_7 : decode cX5_startOf 7 = .ok (.iload_n 3, 1) := by decide +kernel
theorem dX5_startOf_8 : decode cX5_startOf 8 = .ok (.aload_n 0, 1) := by decide +kernel
theorem dX5_startOf_9 : decode cX5_startOf 9 = .ok (.getfield 19, 3) := by decide +kernel
theorem dX5_startOf_12 : decode cX5_startOf 12 = .ok (.invokevirtual 50, 3) := by decide +kernel
theorem dX5_startOf_15 : decode cX5_startOf 15 = .ok (.if_icmp .ge 61, 3) := by decide +kernel
theorem dX5_startOf_18 : decode cX5_startOf 18 = .ok (.aload_n 0, 1) := by decide +kernel
theorem dX5_startOf_19 : decode cX5_startOf 19 = .ok (.getfield 19, 3) := by decide +kernel
theorem dX5_startOf_22 : decode cX5_startOf 22 = .ok (.iload_n 3, 1) := by decide +kernel
theorem dX5_startOf_23 : decode cX5_startOf 23 = .ok (.invokevirtual 191, 3) := by decide +kernel
theorem dX5_startOf_26 : decode cX5_startOf 26 = .ok (.checkcast 106, 3) := by decide +kernel
theorem dX5_startOf_29 : decode cX5_startOf 29 = .ok (.astore 4, 2) := by decide +kernel
theorem dX5_startOf_31 : decode cX5_startOf 31 = .ok (.aload 4, 2) := by decide +kernel
theorem dX5_startOf_33 : decode cX5_startOf 33 = .ok (.getfield 154, 3) := by decide +kernel
theorem dX5_startOf_36 : decode cX5_startOf 36 = .ok (.ifCond .eq 34, 3) := by decide +kernel
theorem dX5_startOf_39 : decode cX5_startOf 39 = .ok (.aload 4, 2) := by decide +kernel
theorem dX5_startOf_41 : decode cX5_startOf 41 = .ok (.getfield 133, 3) := by decide +kernel
theorem dX5_startOf_44 : decode cX5_startOf 44 = .ok (.aload_n 1, 1) := by decide +kernel
theorem dX5_startOf_45 : decode cX5_startOf 45 = .ok (.getfield 133, 3) := by decide +kernel
theorem dX5_startOf_48 : decode cX5_startOf 48 = .ok (.if_acmp .ne 22, 3) := by decide +kernel
theorem dX5_startOf_51 : decode cX5_startOf 51 = .ok (.aload 4, 2) := by decide +kernel
theorem dX5_startOf_53 : decode cX5_startOf 53 = .ok (.aload_n 1, 1) := by decide +kernel
theorem dX5_startOf_54 : decode cX5_startOf 54 = .ok (.invokevirtual 270, 3) := by decide +kernel
theorem dX5_startOf_57 : decode cX5_startOf 57 = .ok (.ifCond .eq 13, 3) := by decide +kernel
theorem dX5_startOf_60 : decode cX5_startOf 60 = .ok (.iload_n 2, 1) := by decide +kernel
theorem dX5_startOf_61 : decode cX5_startOf 61 = .ok (.aload 4, 2) := by decide +kernel
theorem dX5_startOf_63 : decode cX5_startOf 63 = .ok (.getfield 148, 3) := by decide +kernel
theorem dX5_startOf_66 : decode cX5_startOf 66 = .ok (.invokestatic 282, 3) := by decide +kernel
theorem dX5_startOf_69 : decode cX5_startOf 69 = .ok (.istore_n 2, 1) := by decide +kernel
theorem dX5_startOf_70 : decode cX5_startOf 70 = .ok (.iinc 3 1, 3) := by decide +kernel
theorem dX5_startOf_73 : decode cX5_startOf 73 = .ok (.goto (-66), 3) := by decide +kernel
theorem dX5_startOf_76 : decode cX5_startOf 76 = .ok (.iload_n 2, 1) := by decide +kernel
theorem dX5_startOf_77 : decode cX5_startOf 77 = .ok (.ireturn, 1) := by decide +kernel
set_option maxRecDepth 20000 in
theorem ggX5_isHeard_X5_startOf : GoodIn wsX5_isHeard wsX5_startOf := goodIn_r _ [9, 2, 10, 11, 1, 12, 4, 13, 14, 15, 16, 17, 18, 19, 20, 21, 22, 23, 24, 25, 26, 27, 28, 29, 30, 31, 32, 33, 34, 35, 36, 37, 38, 39, 40, 41, 42, 43, 44, 45, 46, 47, 48, 49, 50, 51, 52, 53, 54, 55, 56, 57, 58, 59, 60, 61, 62, 63] (by decide +kernel) (by decide +kernel)
set_option maxRecDepth 20000 in
theorem gX5_isHeard_X5_startOf : GoodIn wsX5_isHeard (wsV RX5 161 RX5 yX5_startOf wsX5_startOf) := goodIn_app (goodIn_of _ (by decide +kernel)) ggX5_isHeard_X5_startOf
theorem dX5_isHeard_0 : decode cX5_isHeard 0 = .ok (.aload_n 1, 1) := by decide +kernel
theorem dX5_isHeard_1 : decode cX5_isHeard 1 = .ok (.getfield 154, 3) := by decide +kernel
theorem dX5_isHeard_4 : decode cX5_isHeard 4 = .ok (.ifCond .eq 41, 3) := by decide +kernel
theorem dX5_isHeard_7 : decode cX5_isHeard 7 = .ok (.aload_n 1, 1) := by decide +kernel
theorem dX5_isHeard_8 : decode cX5_isHeard 8 = .ok (.getfield 145, 3) := by decide +kernel
theorem dX5_isHeard_11 : decode cX5_isHeard 11 = .ok (.aload_n 0, 1) := by decide +kernel
theorem dX5_isHeard_12 : decode cX5_isHeard 12 = .ok (.getfield 32, 3) := by decide +kernel
theorem dX5_isHeard_15 : decode cX5_isHeard 15 = .ok (.if_icmp .gt 30, 3) := by decide +kernel
theorem dX5_isHeard_18 : decode cX5_isHeard 18 = .ok (.aload_n 0, 1) := by decide +kernel
theorem dX5_isHeard_19 : decode cX5_isHeard 19 = .ok (.getfield 32, 3) := by decide +kernel
theorem dX5_isHeard_22 : decode cX5_isHeard 22 = .ok (.aload_n 1, 1) := by decide +kernel
theorem dX5_isHeard_23 : decode cX5_isHeard 23 = .ok (.getfield 148, 3) := by decide +kernel
theorem dX5_isHeard_26 : decode cX5_isHeard 26 = .ok (.if_icmp .ge 19, 3) := by decide +kernel
theorem dX5_isHeard_29 : decode cX5_isHeard 29 = .ok (.aload_n 0, 1) := by decide +kernel
theorem dX5_isHeard_30 : decode cX5_isHeard 30 = .ok (.aload_n 1, 1) := by decide +kernel
theorem dX5_isHeard_31 : decode cX5_isHeard 31 = .ok (.invokevirtual 161, 3) := by decide +kernel
theorem dX5_isHeard_34 : decode cX5_isHeard 34 = .ok (.aload_n 0, 1) := by decide +kernel
theorem dX5_isHeard_35 : decode cX5_isHeard 35 = .ok (.getfield 32, 3) := by decide +kernel
theorem dX5_isHeard_38 : decode cX5_isHeard 38 = .ok (.if_icmp .gt 7, 3) := by decide +kernel
theorem dX5_isHeard_41 : decode cX5_isHeard 41 = .ok (.iconst 1, 1) := by decide +kernel
theorem dX5_isHeard_42 : decode cX5_isHeard 42 = .ok (.goto 4, 3) := by decide +kernel
theorem dX5_isHeard_45 : decode cX5_isHeard 45 = .ok (.iconst 0, 1) := by decide +kernel
theorem dX5_isHeard_46 : decode cX5_isHeard 46 = .ok (.ireturn, 1) := by decide +kernel
set_option maxRecDepth 20000 in
theorem ggX5_prepareSearch_Jx4a65c_size_8abf5 : GoodIn wsX5_prepareSearch wsJx4a65c_size_8abf5 := goodIn_r _ [12, 13, 95, 96, 97] (by decide +kernel) (by decide +kernel)
set_option maxRecDepth 20000 in
theorem gX5_prepareSearch_Jx4a65c_size_8abf5 : GoodIn wsX5_prepareSearch (wsV RX5 50 RJx4a65c yJx4a65c_size_8abf5 wsJx4a65c_size_8abf5) := goodIn_app (goodIn_of _ (by decide +kernel)) ggX5_prepareSearch_Jx4a65c_size_8abf5
set_option maxRecDepth 20000 in
theorem ggX5_prepareSearch_Jx4a65c_get_915e3 : GoodIn wsX5_prepareSearch wsJx4a65c_get_915e3 := goodIn_r _ [17, 13, 18, 19, 20, 21, 22, 23, 24, 25, 26, 27, 28, 11, 29, 30, 95, 96, 97] (by decide +kernel) (by decide +kernel)
set_option maxRecDepth 20000 in
theorem gX5_prepareSearch_Jx4a65c_get_915e3 : GoodIn wsX5_prepareSearch (wsV RX5 191 RJx4a65c yJx4a65c_get_915e3 wsJx4a65c_get_915e3) := goodIn_app (goodIn_of _ (by decide +kernel)) ggX5_prepareSearch_Jx4a65c_get_915e3
set_option maxRecDepth 20000 in
theorem ggX5_prepareSearch_X2_worth : GoodIn wsX5_prepareSearch wsX2_worth := goodIn_r _ [35, 36, 37, 38, 39, 98, 99, 100, 101, 102, 103, 104, 105, 106, 107, 108, 109, 110, 111, 112] (by decide +kernel) (by decide +kernel)
set_option maxRecDepth 20000 in
theorem gX5_prepareSearch_X2_worth : GoodIn wsX5_prepareSearch (wsV RX5 151 RX2 yX2_worth wsX2_worth) := goodIn_app (goodIn_of _ (by decide +kernel)) ggX5_prepareSearch_X2_worth
set_option maxRecDepth 20000 in
theorem ggX5_prepareSearch_X5_conflictsOf : GoodIn wsX5_prepareSearch wsX5_conflictsOf := goodIn_r _ [44, 1, 2, 8, 9, 10, 11, 12, 13, 14, 15, 16, 17, 18, 19, 20, 21, 22, 23, 24, 25, 26, 27, 28, 29, 30, 45, 46, 47, 43, 48, 49, 50, 51, 52, 53, 54, 55, 56, 57, 34, 58, 39, 59, 84, 85, 86, 87, 88, 89, 90, 95, 96, 97, 98, 99, 100, 101, 102, 103, 104, 113, 114, 115, 116, 117] (by decide +kernel) (by decide +kernel)
set_option maxRecDepth 20000 in
theorem gX5_prepareSearch_X5_conflictsOf : GoodIn wsX5_prepareSearch (wsV RX5 279 RX5 yX5_conflictsOf wsX5_conflictsOf) := goodIn_app (goodIn_of _ (by decide +kernel)) ggX5_prepareSearch_X5_conflictsOf
set_option maxRecDepth 20000 in
theorem ggX5_prepareSearch_X5_isFree : GoodIn wsX5_prepareSearch wsX5_isFree := goodIn_r _ [63, 64, 50, 65, 49, 51, 66, 67, 68, 43, 69, 70, 71, 72, 8, 9, 10, 11, 12, 13, 14, 15, 16, 17, 18, 19, 20, 21, 22, 23, 24, 25, 26, 27, 28, 29, 30, 73, 74, 75, 76, 77, 78, 79, 80, 81, 82, 83, 1, 2, 45, 46, 47, 48, 52, 53, 54, 55, 56, 57, 34, 58, 39, 59, 98, 99, 100, 101, 102, 103, 104, 84, 85, 86, 87, 88, 89, 90, 95, 96, 97, 113, 114, 115, 116, 117] (by decide +kernel) (by decide +kernel)
set_option maxRecDepth 20000 in
theorem gX5_prepareSearch_X5_isFree : GoodIn wsX5_prepareSearch (wsV RX5 173 RX5 yX5_isFree wsX5_isFree) := goodIn_app (goodIn_of _ (by decide +kernel)) ggX5_prepareSearch_X5_isFree
theorem dX5_prepareSearch_0 : decode cX5_prepareSearch 0 = .ok (.iconst 0, 1) := by decide +kernel
theorem dX5_prepareSearch_1 : decode cX5_prepareSearch 1 = .ok (.istore_n 1, 1) := by decide +kernel
theorem dX5_prepareSearch_2 : decode cX5_prepareSearch 2 = .ok (.iconst 0, 1) := by decide +kernel
theorem dX5_prepareSearch_3 : decode cX5_prepareSearch 3 = .ok (.istore_n 2, 1) := by decide +kernel
theorem dX5_prepareSearch_4 : decode cX5_prepareSearch 4 = .ok (.iload_n 2, 1) := by decide +kernel
theorem dX5_prepareSearch_5 : decode cX5_prepareSearch 5 = .ok (.aload_n 0, 1) := by decide +kernel
theorem dX5_prepareSearch_6 : decode cX5_prepareSearch 6 = .ok (.getfield 19, 3) := by decide +kernel
theorem dX5_prepareSearch_9 : decode cX5_prepareSearch 9 = .ok (.invokevirtual 50, 3) := by decide +kernel
theorem dX5_prepareSearch_12 : decode cX5_prepareSearch 12 = .ok (.if_icmp .ge 68, 3) := by decide +kernel
theorem dX5_prepareSearch_15 : decode cX5_prepareSearch 15 = .ok (.iload_n 2, 1) := by decide +kernel
theorem dX5_prepareSearch_16 : decode cX5_prepareSearch 16 = .ok (.bipush 16, 2) := by decide +kernel
theorem dX5_prepareSearch_18 : decode cX5_prepareSearch 18 = .ok (.if_icmp .ge 62, 3) := by decide +kernel
theorem dX5_prepareSearch_21 : decode cX5_prepareSearch 21 = .ok (.aload_n 0, 1) := by decide +kernel
theorem dX5_prepareSearch_22 : decode cX5_prepareSearch 22 = .ok (.getfield 19, 3) := by decide +kernel
theorem dX5_prepareSearch_25 : decode cX5_prepareSearch 25 = .ok (.iload_n 2, 1) := by decide +kernel
theorem dX5_prepareSearch_26 : decode cX5_prepareSearch 26 = .ok (.invokevirtual 191, 3) := by decide +kernel
theorem dX5_prepareSearch_29 : decode cX5_prepareSearch 29 = .ok (.checkcast 106, 3) := by decide +kernel
theorem dX5_prepareSearch_32 : decode cX5_prepareSearch 32 = .ok (.astore_n 3, 1) := by decide +kernel
theorem dX5_prepareSearch_33 : decode cX5_prepareSearch 33 = .ok (.aload_n 0, 1) := by decide +kernel
theorem dX5_prepareSearch_34 : decode cX5_prepareSearch 34 = .ok (.getfield 28, 3) := by decide +kernel
theorem dX5_prepareSearch_37 : decode cX5_prepareSearch 37 = .ok (.getfield 287, 3) := by decide +kernel
theorem dX5_prepareSearch_40 : decode cX5_prepareSearch 40 = .ok (.iload_n 2, 1) := by decide +kernel
theorem dX5_prepareSearch_41 : decode cX5_prepareSearch 41 = .ok (.aload_n 3, 1) := by decide +kernel
theorem dX5_prepareSearch_42 : decode cX5_prepareSearch 42 = .ok (.invokevirtual 151, 3) := by decide +kernel
theorem dX5_prepareSearch_45 : decode cX5_prepareSearch 45 = .ok (.iastore, 1) := by decide +kernel
theorem dX5_prepareSearch_46 : decode cX5_prepareSearch 46 = .ok (.aload_n 0, 1) := by decide +kernel
theorem dX5_prepareSearch_47 : decode cX5_prepareSearch 47 = .ok (.getfield 28, 3) := by decide +kernel
theorem dX5_prepareSearch_50 : decode cX5_prepareSearch 50 = .ok (.getfield 291, 3) := by decide +kernel
theorem dX5_prepareSearch_53 : decode cX5_prepareSearch 53 = .ok (.iload_n 2, 1) := by decide +kernel
theorem dX5_prepareSearch_54 : decode cX5_prepareSearch 54 = .ok (.aload_n 0, 1) := by decide +kernel
theorem dX5_prepareSearch_55 : decode cX5_prepareSearch 55 = .ok (.aload_n 3, 1) := by decide +kernel
theorem dX5_prepareSearch_56 : decode cX5_prepareSearch 56 = .ok (.invokevirtual 279, 3) := by decide +kernel
theorem dX5_prepareSearch_59 : decode cX5_prepareSearch 59 = .ok (.iastore, 1) := by decide +kernel
theorem dX5_prepareSearch_60 : decode cX5_prepareSearch 60 = .ok (.aload_n 0, 1) := by decide +kernel
theorem dX5_prepareSearch_61 : decode cX5_prepareSearch 61 = .ok (.aload_n 3, 1) := by decide +kernel
theorem dX5_prepareSearch_62 : decode cX5_prepareSearch 62 = .ok (.invokevirtual 173, 3) := by decide +kernel
theorem dX5_prepareSearch_65 : decode cX5_prepareSearch 65 = .ok (.ifCond .eq 9, 3) := by decide +kernel
theorem dX5_prepareSearch_68 : decode cX5_prepareSearch 68 = .ok (.iload_n 1, 1) := by decide +kernel
theorem dX5_prepareSearch_69 : decode cX5_prepareSearch 69 = .ok (.iconst 1, 1) := by decide +kernel
theorem dX5_prepareSearch_70 : decode cX5_prepareSearch 70 = .ok (.iload_n 2, 1) := by decide +kernel
theorem dX5_prepareSearch_71 : decode cX5_prepareSearch 71 = .ok (.ishl, 1) := by decide +kernel
theorem dX5_prepareSearch_72 : decode cX5_prepareSearch 72 = .ok (.ior, 1) := by decide +kernel
theorem dX5_prepareSearch_73 : decode cX5_prepareSearch 73 = .ok (.istore_n 1, 1) := by decide +kernel
theorem dX5_prepareSearch_74 : decode cX5_prepareSearch 74 = .ok (.iinc 2 1, 3) := by decide +kernel
theorem dX5_prepareSearch_77 : decode cX5_prepareSearch 77 = .ok (.goto (-73), 3) := by decide +kernel
theorem dX5_prepareSearch_80 : decode cX5_prepareSearch 80 = .ok (.aload_n 0, 1) := by decide +kernel
theorem dX5_prepareSearch_81 : decode cX5_prepareSearch 81 = .ok (.getfield 28, 3) := by decide +kernel
theorem dX5_prepareSearch_84 : decode cX5_prepareSearch 84 = .ok (.iconst 0, 1) := by decide +kernel
theorem dX5_prepareSearch_85 : decode cX5_prepareSearch 85 = .ok (.putfield 184, 3) := by decide +kernel
theorem dX5_prepareSearch_88 : decode cX5_prepareSearch 88 = .ok (.aload_n 0, 1) := by decide +kernel
theorem dX5_prepareSearch_89 : decode cX5_prepareSearch 89 = .ok (.getfield 28, 3) := by decide +kernel
theorem dX5_prepareSearch_92 : decode cX5_prepareSearch 92 = .ok (.iconst 0, 1) := by decide +kernel
theorem dX5_prepareSearch_93 : decode cX5_prepareSearch 93 = .ok (.putfield 294, 3) := by decide +kernel
theorem dX5_prepareSearch_96 : decode cX5_prepareSearch 96 = .ok (.iload_n 1, 1) := by decide +kernel
theorem dX5_prepareSearch_97 : decode cX5_prepareSearch 97 = .ok (.ireturn, 1) := by decide +kernel
set_option maxRecDepth 20000 in
theorem ggX5_searchFrom_X4_offer : GoodIn wsX5_searchFrom wsX4_offer := goodIn_r _ [8, 9, 10, 11, 12, 13, 7, 14, 15, 16, 17, 18, 19, 20, 21, 33, 34, 35, 36] (by decide +kernel) (by decide +kernel)
set_option maxRecDepth 20000 in
theorem gX5_searchFrom_X4_offer : GoodIn wsX5_searchFrom (wsV RX5 297 RX4 yX4_offer wsX4_offer) := goodIn_app (goodIn_of _ (by decide +kernel)) ggX5_searchFrom_X4_offer
set_option maxRecDepth 20000 in
theorem ggX5_searchFrom_X4_weightOf : GoodIn wsX5_searchFrom wsX4_weightOf := goodIn_r _ [25, 26, 27, 28, 29, 33, 34, 35, 36] (by decide +kernel) (by decide +kernel)
set_option maxRecDepth 20000 in
theorem gX5_searchFrom_X4_weightOf : GoodIn wsX5_searchFrom (wsV RX5 300 RX4 yX4_weightOf wsX4_weightOf) := goodIn_app (goodIn_of _ (by decide +kernel)) ggX5_searchFrom_X4_weightOf
set_option maxRecDepth 20000 in
theorem ggX5_searchFrom_X5_contains : GoodIn wsX5_searchFrom wsX5_contains := goodIn_r _ [29] (by decide +kernel) (by decide +kernel)
set_option maxRecDepth 20000 in
theorem gX5_searchFrom_X5_contains : GoodIn wsX5_searchFrom (va_wsS RX5 98 yX5_contains wsX5_contains) := goodIn_app (goodIn_of _ (by decide +kernel)) ggX5_searchFrom_X5_contains
set_option maxRecDepth 20000 in
theorem ggX5_searchFrom_X5_searchFrom : GoodIn wsX5_searchFrom wsX5_searchFrom := goodIn_r _ [0, 1, 2, 3, 4, 5, 6, 7, 8, 9, 10, 11, 12, 13, 14, 15, 16, 17, 18, 19, 20, 21, 22, 23, 24, 25, 26, 27, 28, 29, 30, 31, 32, 33, 34, 35, 36] (by decide +kernel) (by decide +kernel)
set_option maxRecDepth 20000 in
theorem gX5_searchFrom_X5_searchFrom : GoodIn wsX5_searchFrom (va_wsS RX5 180 yX5_searchFrom wsX5_searchFrom) := goodIn_app (goodIn_of _ (by decide +kernel)) ggX5_searchFrom_X5_searchFrom
theorem dX5_searchFrom_0 : decode cX5_searchFrom 0 = .ok (.iload_n 3, 1) := by decide +kernel
theorem dX5_searchFrom_1 : decode cX5_searchFrom 1 = .ok (.ifCond .eq 13, 3) := by decide +kernel
theorem dX5_searchFrom_4 : decode cX5_searchFrom 4 = .ok (.iload_n 1, 1) := by decide +kernel
theorem dX5_searchFrom_5 : decode cX5_searchFrom 5 = .ok (.ifCond .lt 9, 3) := by decide +kernel
theorem dX5_searchFrom_8 : decode cX5_searchFrom 8 = .ok (.iload_n 1, 1) := by decide +kernel
theorem dX5_searchFrom_9 : decode cX5_searchFrom 9 = .ok (.bipush 16, 2) := by decide +kernel
theorem dX5_searchFrom_11 : decode cX5_searchFrom 11 = .ok (.if_icmp .lt 11, 3) := by decide +kernel
theorem dX5_searchFrom_14 : decode cX5_searchFrom 14 = .ok (.aload_n 0, 1) := by decide +kernel
theorem dX5_searchFrom_15 : decode cX5_searchFrom 15 = .ok (.iload_n 2, 1) := by decide +kernel
theorem dX5_searchFrom_16 : decode cX5_searchFrom 16 = .ok (.iload 4, 2) := by decide +kernel
theorem dX5_searchFrom_18 : decode cX5_searchFrom 18 = .ok (.invokevirtual 297, 3) := by decide +kernel
theorem dX5_searchFrom_21 : decode cX5_searchFrom 21 = .ok (.return_, 1) := by decide +kernel
theorem dX5_searchFrom_22 : decode cX5_searchFrom 22 = .ok (.iload 4, 2) := by decide +kernel
theorem dX5_searchFrom_24 : decode cX5_searchFrom 24 = .ok (.aload_n 0, 1) := by decide +kernel
theorem dX5_searchFrom_25 : decode cX5_searchFrom 25 = .ok (.iload_n 3, 1) := by decide +kernel
theorem dX5_searchFrom_26 : decode cX5_searchFrom 26 = .ok (.invokevirtual 300, 3) := by decide +kernel
theorem dX5_searchFrom_29 : decode cX5_searchFrom 29 = .ok (.iadd, 1) := by decide +kernel
theorem dX5_searchFrom_30 : decode cX5_searchFrom 30 = .ok (.aload_n 0, 1) := by decide +kernel
theorem dX5_searchFrom_31 : decode cX5_searchFrom 31 = .ok (.getfield 294, 3) := by decide +kernel
theorem dX5_searchFrom_34 : decode cX5_searchFrom 34 = .ok (.if_icmp .ge 4, 3) := by decide +kernel
theorem dX5_searchFrom_37 : decode cX5_searchFrom 37 = .ok (.return_, 1) := by decide +kernel
theorem dX5_searchFrom_38 : decode cX5_searchFrom 38 = .ok (.iload_n 3, 1) := by decide +kernel
theorem dX5_searchFrom_39 : decode cX5_searchFrom 39 = .ok (.iconst 1, 1) := by decide +kernel
theorem dX5_searchFrom_40 : decode cX5_searchFrom 40 = .ok (.iload_n 1, 1) := by decide +kernel
theorem dX5_searchFrom_41 : decode cX5_searchFrom 41 = .ok (.ishl, 1) := by decide +kernel
theorem dX5_searchFrom_42 : decode cX5_searchFrom 42 = .ok (.iconst (-1), 1) := by decide +kernel
theorem dX5_searchFrom_43 : decode cX5_searchFrom 43 = .ok (.ixor, 1) := by decide +kernel
theorem dX5_searchFrom_44 : decode cX5_searchFrom 44 = .ok (.iand, 1) := by decide +kernel
theorem dX5_searchFrom_45 : decode cX5_searchFrom 45 = .ok (.istore 5, 2) := by decide +kernel
theorem dX5_searchFrom_47 : decode cX5_searchFrom 47 = .ok (.iload_n 3, 1) := by decide +kernel
theorem dX5_searchFrom_48 : decode cX5_searchFrom 48 = .ok (.iload_n 1, 1) := by decide +kernel
theorem dX5_searchFrom_49 : decode cX5_searchFrom 49 = .ok (.invokestatic 98, 3) := by decide +kernel
theorem dX5_searchFrom_52 : decode cX5_searchFrom 52 = .ok (.ifCond .eq 48, 3) := by decide +kernel
theorem dX5_searchFrom_55 : decode cX5_searchFrom 55 = .ok (.aload_n 0, 1) := by decide +kernel
theorem dX5_searchFrom_56 : decode cX5_searchFrom 56 = .ok (.iload_n 1, 1) := by decide +kernel
theorem dX5_searchFrom_57 : decode cX5_searchFrom 57 = .ok (.iconst 1, 1) := by decide +kernel
theorem dX5_searchFrom_58 : decode cX5_searchFrom 58 = .ok (.iadd, 1) := by decide +kernel
theorem dX5_searchFrom_59 : decode cX5_searchFrom 59 = .ok (.iload_n 2, 1) := by decide +kernel
theorem dX5_searchFrom_60 : decode cX5_searchFrom 60 = .ok (.iconst 1, 1) := by decide +kernel
theorem dX5_searchFrom_61 : decode cX5_searchFrom 61 = .ok (.iload_n 1, 1) := by decide +kernel
theorem dX5_searchFrom_62 : decode cX5_searchFrom 62 = .ok (.ishl, 1) := by decide +kernel
theorem dX5_searchFrom_63 : decode cX5_searchFrom 63 = .ok (.ior, 1) := by decide +kernel
theorem dX5_searchFrom_64 : decode cX5_searchFrom 64 = .ok (.iload 5, 2) := by decide +kernel
theorem dX5_searchFrom_66 : decode cX5_searchFrom 66 = .ok (.aload_n 0, 1) := by decide +kernel
theorem dX5_searchFrom_67 : decode cX5_searchFrom 67 = .ok (.getfield 291, 3) := by decide +kernel
theorem dX5_searchFrom_70 : decode cX5_searchFrom 70 = .ok (.iload_n 1, 1) := by decide +kernel
theorem dX5_searchFrom_71 : decode cX5_searchFrom 71 = .ok (.iaload, 1) := by decide +kernel
theorem dX5_searchFrom_72 : decode cX5_searchFrom 72 = .ok (.iconst (-1), 1) := by decide +kernel
theorem dX5_searchFrom_73 : decode cX5_searchFrom 73 = .ok (.ixor, 1) := by decide +kernel
theorem dX5_searchFrom_74 : decode cX5_searchFrom 74 = .ok (.iand, 1) := by decide +kernel
theorem dX5_searchFrom_75 : decode cX5_searchFrom 75 = .ok (.iload 4, 2) := by decide +kernel
theorem dX5_searchFrom_77 : decode cX5_searchFrom 77 = .ok (.aload_n 0, 1) := by decide +kernel
theorem dX5_searchFrom_78 : decode cX5_searchFrom 78 = .ok (.getfield 287, 3) := by decide +kernel
theorem dX5_searchFrom_81 : decode cX5_searchFrom 81 = .ok (.iload_n 1, 1) := by decide +kernel
theorem dX5_searchFrom_82 : decode cX5_searchFrom 82 = .ok (.iaload, 1) := by decide +kernel
theorem dX5_searchFrom_83 : decode cX5_searchFrom 83 = .ok (.iadd, 1) := by decide +kernel
theorem dX5_searchFrom_84 : decode cX5_searchFrom 84 = .ok (.invokestatic 180, 3) := by decide +kernel
theorem dX5_searchFrom_87 : decode cX5_searchFrom 87 = .ok (.iload 5, 2) := by decide +kernel
theorem dX5_searchFrom_89 : decode cX5_searchFrom 89 = .ok (.aload_n 0, 1) := by decide +kernel
theorem dX5_searchFrom_90 : decode cX5_searchFrom 90 = .ok (.getfield 291, 3) := by decide +kernel
theorem dX5_searchFrom_93 : decode cX5_searchFrom 93 = .ok (.iload_n 1, 1) := by decide +kernel
theorem dX5_searchFrom_94 : decode cX5_searchFrom 94 = .ok (.iaload, 1) := by decide +kernel
theorem dX5_searchFrom_95 : decode cX5_searchFrom 95 = .ok (.iand, 1) := by decide +kernel
theorem dX5_searchFrom_96 : decode cX5_searchFrom 96 = .ok (.ifCond .ne 4, 3) := by decide +kernel
theorem dX5_searchFrom_99 : decode cX5_searchFrom 99 = .ok (.return_, 1) := by decide +kernel
theorem dX5_searchFrom_100 : decode cX5_searchFrom 100 = .ok (.aload_n 0, 1) := by decide +kernel
theorem dX5_searchFrom_101 : decode cX5_searchFrom 101 = .ok (.iload_n 1, 1) := by decide +kernel
theorem dX5_searchFrom_102 : decode cX5_searchFrom 102 = .ok (.iconst 1, 1) := by decide +kernel
theorem dX5_searchFrom_103 : decode cX5_searchFrom 103 = .ok (.iadd, 1) := by decide +kernel
theorem dX5_searchFrom_104 : decode cX5_searchFrom 104 = .ok (.iload_n 2, 1) := by decide +kernel
theorem dX5_searchFrom_105 : decode cX5_searchFrom 105 = .ok (.iload 5, 2) := by decide +kernel
theorem dX5_searchFrom_107 : decode cX5_searchFrom 107 = .ok (.iload 4, 2) := by decide +kernel
theorem dX5_searchFrom_109 : decode cX5_searchFrom 109 = .ok (.invokestatic 180, 3) := by decide +kernel
theorem dX5_searchFrom_112 : decode cX5_searchFrom 112 = .ok (.return_, 1) := by decide +kernel
set_option maxRecDepth 20000 in
theorem ggX5_gatherEverywhere_Jx4a65c_size_8abf5 : GoodIn wsX5_gatherEverywhere wsJx4a65c_size_8abf5 := goodIn_r _ [7, 8, 46, 47, 48] (by decide +kernel) (by decide +kernel)
set_option maxRecDepth 20000 in
theorem gX5_gatherEverywhere_Jx4a65c_size_8abf5 : GoodIn wsX5_gatherEverywhere (wsV RX5 50 RJx4a65c yJx4a65c_size_8abf5 wsJx4a65c_size_8abf5) := goodIn_app (goodIn_of _ (by decide +kernel)) ggX5_gatherEverywhere_Jx4a65c_size_8abf5
set_option maxRecDepth 20000 in
theorem ggX5_gatherEverywhere_Jx4a65c_get_915e3 : GoodIn wsX5_gatherEverywhere wsJx4a65c_get_915e3 := goodIn_r _ [12, 8, 13, 14, 15, 16, 17, 18, 19, 20, 21, 22, 23, 6, 24, 25, 46, 47, 48] (by decide +kernel) (by decide +kernel)
set_option maxRecDepth 20000 in
theorem gX5_gatherEverywhere_Jx4a65c_get_915e3 : GoodIn wsX5_gatherEverywhere (wsV RX5 191 RJx4a65c yJx4a65c_get_915e3 wsJx4a65c_get_915e3) := goodIn_app (goodIn_of _ (by decide +kernel)) ggX5_gatherEverywhere_Jx4a65c_get_915e3
set_option maxRecDepth 20000 in
theorem ggX5_gatherEverywhere_X3_gather : GoodIn wsX5_gatherEverywhere wsX3_gather := goodIn_r _ [30, 31, 32, 33, 34, 35, 36, 37, 38, 49, 50, 51, 52, 53, 54, 55, 56] (by decide +kernel) (by decide +kernel)
set_option maxRecDepth 20000 in
theorem gX5_gatherEverywhere_X3_gather : GoodIn wsX5_gatherEverywhere (wsV RX5 304 RX3 yX3_gather wsX3_gather) := goodIn_app (goodIn_of _ (by decide +kernel)) ggX5_gatherEverywhere_X3_gather
theorem dX5_gatherEverywhere_0 : decode cX5_gatherEverywhere 0 = .ok (.iconst 0, 1) := by decide +kernel
theorem dX5_gatherEverywhere_1 : decode cX5_gatherEverywhere 1 = .ok (.istore_n 1, 1) := by decide +kernel
theorem dX5_gatherEverywhere_2 : decode cX5_gatherEverywhere 2 = .ok (.iload_n 1, 1) := by decide +kernel
theorem dX5_gatherEverywhere_3 : decode cX5_gatherEverywhere 3 = .ok (.aload_n 0, 1) := by decide +kernel
theorem dX5_gatherEverywhere_4 : decode cX5_gatherEverywhere 4 = .ok (.getfield 16, 3) := by decide +kernel
theorem dX5_gatherEverywhere_7 : decode cX5_gatherEverywhere 7 = .ok (.invokevirtual 50, 3) := by decide +kernel
theorem dX5_gatherEverywhere_10 : decode cX5_gatherEverywhere 10 = .ok (.if_icmp .ge 23, 3) := by decide +kernel
theorem dX5_gatherEverywhere_13 : decode cX5_gatherEverywhere 13 = .ok (.aload_n 0, 1) := by decide +kernel
theorem dX5_gatherEverywhere_14 : decode cX5_gatherEverywhere 14 = .ok (.getfield 16, 3) := by decide +kernel
theorem dX5_gatherEverywhere_17 : decode cX5_gatherEverywhere 17 = .ok (.iload_n 1, 1) := by decide +kernel
theorem dX5_gatherEverywhere_18 : decode cX5_gatherEverywhere 18 = .ok (.invokevirtual 191, 3) := by decide +kernel
theorem dX5_gatherEverywhere_21 : decode cX5_gatherEverywhere 21 = .ok (.checkcast 73, 3) := by decide +kernel
theorem dX5_gatherEverywhere_24 : decode cX5_gatherEverywhere 24 = .ok (.invokevirtual 304, 3) := by decide +kernel
theorem dX5_gatherEverywhere_27 : decode cX5_gatherEverywhere 27 = .ok (.iinc 1 1, 3) := by decide +kernel
theorem dX5_gatherEverywhere_30 : decode cX5_gatherEverywhere 30 = .ok (.goto (-28), 3) := by decide +kernel
theorem dX5_gatherEverywhere_33 : decode cX5_gatherEverywhere 33 = .ok (.return_, 1) := by decide +kernel
set_option maxRecDepth 20000 in
theorem ggX5_bringDownEverywhere_Jx4a65c_size_8abf5 : GoodIn wsX5_bringDownEverywhere wsJx4a65c_size_8abf5 := goodIn_r _ [9, 10, 94, 95, 96] (by decide +kernel) (by decide +kernel)
set_option maxRecDepth 20000 in
theorem gX5_bringDownEverywhere_Jx4a65c_size_8abf5 : GoodIn wsX5_bringDownEverywhere (wsV RX5 50 RJx4a65c yJx4a65c_size_8abf5 wsJx4a65c_size_8abf5) := goodIn_app (goodIn_of _ (by decide +kernel)) ggX5_bringDownEverywhere_Jx4a65c_size_8abf5
set_option maxRecDepth 20000 in
theorem ggX5_bringDownEverywhere_Jx4a65c_get_915e3 : GoodIn wsX5_bringDownEverywhere wsJx4a65c_get_915e3 := goodIn_r _ [14, 10, 15, 16, 17, 18, 19, 20, 21, 22, 23, 24, 25, 8, 26, 27, 94, 95, 96] (by decide +kernel) (by decide +kernel)
set_option maxRecDepth 20000 in
theorem gX5_bringDownEverywhere_Jx4a65c_get_915e3 : GoodIn wsX5_bringDownEverywhere (wsV RX5 191 RJx4a65c yJx4a65c_get_915e3 wsJx4a65c_get_915e3) := goodIn_app (goodIn_of _ (by decide +kernel)) ggX5_bringDownEverywhere_Jx4a65c_get_915e3
set_option maxRecDepth 20000 in
theorem ggX5_bringDownEverywhere_X5_isHeard : GoodIn wsX5_bringDownEverywhere wsX5_isHeard := goodIn_r _ [32, 33, 34, 4, 35, 36, 37, 38, 31, 39, 1, 2, 40, 41, 42, 43, 44, 5, 6, 7, 8, 9, 10, 11, 12, 13, 14, 15, 16, 17, 18, 19, 20, 21, 22, 23, 24, 25, 26, 27, 45, 46, 47, 48, 49, 50, 51, 87, 88, 89, 90, 91, 92, 93, 80, 81, 82, 83, 84, 85, 86, 94, 95, 96] (by decide +kernel) (by decide +kernel)
set_option maxRecDepth 20000 in
theorem gX5_bringDownEverywhere_X5_isHeard : GoodIn wsX5_bringDownEverywhere (wsV RX5 307 RX5 yX5_isHeard wsX5_isHeard) := goodIn_app (goodIn_of _ (by decide +kernel)) ggX5_bringDownEverywhere_X5_isHeard
set_option maxRecDepth 20000 in
theorem ggX5_bringDownEverywhere_X5_isOut : GoodIn wsX5_bringDownEverywhere wsX5_isOut := goodIn_r _ [55, 56, 57, 58, 5, 6, 7, 8, 9, 10, 11, 12, 13, 14, 15, 16, 17, 18, 19, 20, 21, 22, 23, 24, 25, 26, 27, 59, 60, 61, 62, 63, 64, 65, 80, 81, 82, 83, 84, 85, 86, 94, 95, 96] (by decide +kernel) (by decide +kernel)
set_option maxRecDepth 20000 in
theorem gX5_bringDownEverywhere_X5_isOut : GoodIn wsX5_bringDownEverywhere (wsV RX5 238 RX5 yX5_isOut wsX5_isOut) := goodIn_app (goodIn_of _ (by decide +kernel)) ggX5_bringDownEverywhere_X5_isOut
set_option maxRecDepth 20000 in
theorem ggX5_bringDownEverywhere_X2_bringDown : GoodIn wsX5_bringDownEverywhere wsX2_bringDown := goodIn_r _ [69, 70, 71, 72, 73, 74, 75, 43, 76, 77, 78, 79, 87, 88, 89, 90, 91, 92, 93, 97, 98, 99, 100, 101, 102, 103, 104, 105, 106, 107, 108, 109] (by decide +kernel) (by decide +kernel)
set_option maxRecDepth 20000 in
theorem gX5_bringDownEverywhere_X2_bringDown : GoodIn wsX5_bringDownEverywhere (wsV RX5 310 RX2 yX2_bringDown wsX2_bringDown) := goodIn_app (goodIn_of _ (by decide +kernel)) ggX5_bringDownEverywhere_X2_bringDown
theorem dX5_bringDownEverywhere_0 : decode cX5_bringDownEverywhere 0 = .ok (.iconst 0, 1) := by decide +kernel
theorem dX5_bringDownEverywhere_1 : decode cX5_bringDownEverywhere 1 = .ok (.istore_n 1, 1) := by decide +kernel
theorem dX5_bringDownEverywhere_2 : decode cX5_bringDownEverywhere 2 = .ok (.iconst 0, 1) := by decide +kernel
theorem dX5_bringDownEverywhere_3 : decode cX5_bringDownEverywhere 3 = .ok (.istore_n 2, 1) := by decide +kernel
theorem dX5_bringDownEverywhere_4 : decode cX5_bringDownEverywhere 4 = .ok (.iload_n 2, 1) := by decide +kernel
theorem dX5_bringDownEverywhere_5 : decode cX5_bringDownEverywhere 5 = .ok (.aload_n 0, 1) := by decide +kernel
theorem dX5_bringDownEverywhere_6 : decode cX5_bringDownEverywhere 6 = .ok (.getfield 19, 3) := by decide +kernel
theorem dX5_bringDownEverywhere_9 : decode cX5_bringDownEverywhere 9 = .ok (.invokevirtual 50, 3) := by decide +kernel
theorem dX5_bringDownEverywhere_12 : decode cX5_bringDownEverywhere 12 = .ok (.if_icmp .ge 57, 3) := by decide +kernel
theorem dX5_bringDownEverywhere_15 : decode cX5_bringDownEverywhere 15 = .ok (.aload_n 0, 1) := by decide +kernel
theorem dX5_bringDownEverywhere_16 : decode cX5_bringDownEverywhere 16 = .ok (.getfield 19, 3) := by decide +kernel
theorem dX5_bringDownEverywhere_19 : decode cX5_bringDownEverywhere 19 = .ok (.iload_n 2, 1) := by decide +kernel
theorem dX5_bringDownEverywhere_20 : decode cX5_bringDownEverywhere 20 = .ok (.invokevirtual 191, 3) := by decide +kernel
theorem dX5_bringDownEverywhere_23 : decode cX5_bringDownEverywhere 23 = .ok (.checkcast 106, 3) := by decide +kernel
theorem dX5_bringDownEverywhere_26 : decode cX5_bringDownEverywhere 26 = .ok (.astore_n 3, 1) := by decide +kernel
theorem dX5_bringDownEverywhere_27 : decode cX5_bringDownEverywhere 27 = .ok (.aload_n 0, 1) := by decide +kernel
theorem dX5_bringDownEverywhere_28 : decode cX5_bringDownEverywhere 28 = .ok (.aload_n 3, 1) := by decide +kernel
theorem dX5_bringDownEverywhere_29 : decode cX5_bringDownEverywhere 29 = .ok (.invokevirtual 307, 3) := by decide +kernel
theorem dX5_bringDownEverywhere_32 : decode cX5_bringDownEverywhere 32 = .ok (.ifCond .eq 31, 3) := by decide +kernel
theorem dX5_bringDownEverywhere_35 : decode cX5_bringDownEverywhere 35 = .ok (.aload_n 0, 1) := by decide +kernel
theorem dX5_bringDownEverywhere_36 : decode cX5_bringDownEverywhere 36 = .ok (.aload_n 3, 1) := by decide +kernel
theorem dX5_bringDownEverywhere_37 : decode cX5_bringDownEverywhere 37 = .ok (.getfield 140, 3) := by decide +kernel
theorem dX5_bringDownEverywhere_40 : decode cX5_bringDownEverywhere 40 = .ok (.aload_n 0, 1) := by decide +kernel
theorem dX5_bringDownEverywhere_41 : decode cX5_bringDownEverywhere 41 = .ok (.getfield 32, 3) := by decide +kernel
theorem dX5_bringDownEverywhere_44 : decode cX5_bringDownEverywhere 44 = .ok (.aload_n 0, 1) := by decide +kernel
theorem dX5_bringDownEverywhere_45 : decode cX5_bringDownEverywhere 45 = .ok (.getfield 32, 3) := by decide +kernel
theorem dX5_bringDownEverywhere_48 : decode cX5_bringDownEverywhere 48 = .ok (.iconst 1, 1) := by decide +kernel
theorem dX5_bringDownEverywhere_49 : decode cX5_bringDownEverywhere 49 = .ok (.iadd, 1) := by decide +kernel
theorem dX5_bringDownEverywhere_50 : decode cX5_bringDownEverywhere 50 = .ok (.invokevirtual 238, 3) := by decide +kernel
theorem dX5_bringDownEverywhere_53 : decode cX5_bringDownEverywhere 53 = .ok (.ifCond .ne 10, 3) := by decide +kernel
theorem dX5_bringDownEverywhere_56 : decode cX5_bringDownEverywhere 56 = .ok (.iload_n 1, 1) := by decide +kernel
theorem dX5_bringDownEverywhere_57 : decode cX5_bringDownEverywhere 57 = .ok (.aload_n 3, 1) := by decide +kernel
theorem dX5_bringDownEverywhere_58 : decode cX5_bringDownEverywhere 58 = .ok (.invokevirtual 310, 3) := by decide +kernel
theorem dX5_bringDownEverywhere_61 : decode cX5_bringDownEverywhere 61 = .ok (.iadd, 1) := by decide +kernel
theorem dX5_bringDownEverywhere_62 : decode cX5_bringDownEverywhere 62 = .ok (.istore_n 1, 1) := by decide +kernel
theorem dX5_bringDownEverywhere_63 : decode cX5_bringDownEverywhere 63 = .ok (.iinc 2 1, 3) := by decide +kernel
theorem dX5_bringDownEverywhere_66 : decode cX5_bringDownEverywhere 66 = .ok (.goto (-62), 3) := by decide +kernel
theorem dX5_bringDownEverywhere_69 : decode cX5_bringDownEverywhere 69 = .ok (.iload_n 1, 1) := by decide +kernel
theorem dX5_bringDownEverywhere_70 : decode cX5_bringDownEverywhere 70 = .ok (.ireturn, 1) := by decide +kernel
set_option maxRecDepth 20000 in
theorem ggX5_isOut_Jx4a65c_size_8abf5 : GoodIn wsX5_isOut wsJx4a65c_size_8abf5 := goodIn_r _ [8, 9, 41, 42, 43] (by decide +kernel) (by decide +kernel)
set_option maxRecDepth 20000 in
theorem gX5_isOut_Jx4a65c_size_8abf5 : GoodIn wsX5_isOut (wsV RX5 50 RJx4a65c yJx4a65c_size_8abf5 wsJx4a65c_size_8abf5) := goodIn_app (goodIn_of _ (by decide +kernel)) ggX5_isOut_Jx4a65c_size_8abf5
set_option maxRecDepth 20000 in
theorem ggX5_isOut_Jx4a65c_get_915e3 : GoodIn wsX5_isOut wsJx4a65c_get_915e3 := goodIn_r _ [13, 9, 14, 15, 16, 17, 18, 19, 20, 21, 22, 23, 24, 7, 25, 26, 41, 42, 43] (by decide +kernel) (by decide +kernel)
set_option maxRecDepth 20000 in
theorem gX5_isOut_Jx4a65c_get_915e3 : GoodIn wsX5_isOut (wsV RX5 191 RJx4a65c yJx4a65c_get_915e3 wsJx4a65c_get_915e3) := goodIn_app (goodIn_of _ (by decide +kernel)) ggX5_isOut_Jx4a65c_get_915e3
set_option maxRecDepth 20000 in
theorem ggX5_isOut_X1_meets : GoodIn wsX5_isOut wsX1_meets := goodIn_r _ [31, 32, 33] (by decide +kernel) (by decide +kernel)
--
-- (no row for the call of meets)
theorem dX5_isOut_0 : decode cX5_isOut 0 = .ok (.iconst 0, 1) := by decide +kernel
theorem dX5_isOut_1 : decode cX5_isOut 1 = .ok (.istore 4, 2) := by decide +kernel
theorem dX5_isOut_3 : decode cX5_isOut 3 = .ok (.iload 4, 2) := by decide +kernel
theorem dX5_isOut_5 : decode cX5_isOut 5 = .ok (.aload_n 0, 1) := by decide +kernel
theorem dX5_isOut_6 : decode cX5_isOut 6 = .ok (.getfield 22, 3) := by decide +kernel
theorem dX5_isOut_9 : decode cX5_isOut 9 = .ok (.invokevirtual 50, 3) := by decide +kernel
theorem dX5_isOut_12 : decode cX5_isOut 12 = .ok (.if_icmp .ge 44, 3) := by decide +kernel
theorem dX5_isOut_15 : decode cX5_isOut 15 = .ok (.aload_n 0, 1) := by decide +kernel
theorem dX5_isOut_16 : decode cX5_isOut 16 = .ok (.getfield 22, 3) := by decide +kernel
theorem dX5_isOut_19 : decode cX5_isOut 19 = .ok (.iload 4, 2) := by decide +kernel
theorem dX5_isOut_21 : decode cX5_isOut 21 = .ok (.invokevirtual 191, 3) := by decide +kernel
theorem dX5_isOut_24 : decode cX5_isOut 24 = .ok (.checkcast 113, 3) := by decide +kernel
theorem dX5_isOut_27 : decode cX5_isOut 27 = .ok (.astore 5, 2) := by decide +kernel
theorem dX5_isOut_29 : decode cX5_isOut 29 = .ok (.aload 5, 2) := by decide +kernel
theorem dX5_isOut_31 : decode cX5_isOut 31 = .ok (.getfield 313, 3) := by decide +kernel
theorem dX5_isOut_34 : decode cX5_isOut 34 = .ok (.aload_n 1, 1) := by decide +kernel
theorem dX5_isOut_35 : decode cX5_isOut 35 = .ok (.if_acmp .ne 15, 3) := by decide +kernel
theorem dX5_isOut_38 : decode cX5_isOut 38 = .ok (.aload 5, 2) := by decide +kernel
theorem dX5_isOut_40 : decode cX5_isOut 40 = .ok (.iload_n 2, 1) := by decide +kernel
theorem dX5_isOut_41 : decode cX5_isOut 41 = .ok (.iload_n 3, 1) := by decide +kernel
theorem dX5_isOut_42 : decode cX5_isOut 42 = .ok (.invokevirtual 314, 3) := by decide +kernel
theorem dX5_isOut_45 : decode cX5_isOut 45 = .ok (.ifCond .eq 5, 3) := by decide +kernel
theorem dX5_isOut_48 : decode cX5_isOut 48 = .ok (.iconst 1, 1) := by decide +kernel
theorem dX5_isOut_49 : decode cX5_isOut 49 = .ok (.ireturn, 1) := by decide +kernel
theorem dX5_isOut_50 : decode cX5_isOut 50 = .ok (.iinc 4 1, 3) := by decide +kernel
theorem dX5_isOut_53 : decode cX5_isOut 53 = .ok (.goto (-50), 3) := by decide +kernel
theorem dX5_isOut_56 : decode cX5_isOut 56 = .ok (.iconst 0, 1) := by decide +kernel
theorem dX5_isOut_57 : decode cX5_isOut 57 = .ok (.ireturn, 1) := by decide +kernel
theorem dJ6_bitCount_0f7a4_0 : decode cJ6_bitCount_0f7a4 0 = .ok (.iload_n 0, 1) := by decide +kernel
theorem dJ6_bitCount_0f7a4_1 : decode cJ6_bitCount_0f7a4 1 = .ok (.iload_n 0, 1) := by decide +kernel
theorem dJ6_bitCount_0f7a4_2 : decode cJ6_bitCount_0f7a4 2 = .ok (.iconst 1, 1) := by decide +kernel
theorem dJ6_bitCount_0f7a4_3 : decode cJ6_bitCount_0f7a4 3 = .ok (.iushr, 1) := by decide +kernel
theorem dJ6_bitCount_0f7a4_4 : decode cJ6_bitCount_0f7a4 4 = .ok (.ldc_w 265, 3) := by decide +kernel
theorem dJ6_bitCount_0f7a4_7 : decode cJ6_bitCount_0f7a4 7 = .ok (.iand, 1) := by decide +kernel
theorem dJ6_bitCount_0f7a4_8 : decode cJ6_bitCount_0f7a4 8 = .ok (.isub, 1) := by decide +kernel
theorem dJ6_bitCount_0f7a4_9 : decode cJ6_bitCount_0f7a4 9 = .ok (.istore_n 0, 1) := by decide +kernel
theorem dJ6_bitCount_0f7a4_10 : decode cJ6_bitCount_0f7a4 10 = .ok (.iload_n 0, 1) := by decide +kernel
theorem dJ6_bitCount_0f7a4_11 : decode cJ6_bitCount_0f7a4 11 = .ok (.ldc_w 266, 3) := by decide +kernel
theorem dJ6_bitCount_0f7a4_14 : decode cJ6_bitCount_0f7a4 14 = .ok (.iand, 1) := by decide +kernel
theorem dJ6_bitCount_0f7a4_15 : decode cJ6_bitCount_0f7a4 15 = .ok (.iload_n 0, 1) := by decide +kernel
theorem dJ6_bitCount_0f7a4_16 : decode cJ6_bitCount_0f7a4 16 = .ok (.iconst 2, 1) := by decide +kernel