theorem dX5_areFreeTogether_1 : decode cX5_areFreeTogether 1 = .ok (.istore_n 2, 1) := by decide +kernel
theorem dX5_areFreeTogether_2 : decode cX5_areFreeTogether 2 = .ok (.iload_n 2, 1) := by decide +kernel
theorem dX5_areFreeTogether_3 : decode cX5_areFreeTogether 3 = .ok (.aload_n 0, 1) := by decide +kernel
theorem dX5_areFreeTogether_4 : decode cX5_areFreeTogether 4 = .ok (.getfield 19, 3) := by decide +kernel
theorem dX5_areFreeTogether_7 : decode cX5_areFreeTogether 7 = .ok (.invokevirtual 50, 3) := by decide +kernel
theorem dX5_areFreeTogether_10 : decode cX5_areFreeTogether 10 = .ok (.if_icmp .ge 49, 3) := by decide +kernel
theorem dX5_areFreeTogether_13 : decode cX5_areFreeTogether 13 = .ok (.iload_n 1, 1) := by decide +kernel
theorem dX5_areFreeTogether_14 : decode cX5_areFreeTogether 14 = .ok (.iload_n 2, 1) := by decide +kernel
theorem dX5_areFreeTogether_15 : decode cX5_areFreeTogether 15 = .ok (.invokestatic 98, 3) := by decide +kernel
theorem dX5_areFreeTogether_18 : decode cX5_areFreeTogether 18 = .ok (.ifCond .eq 35, 3) := by decide +kernel
theorem dX5_areFreeTogether_21 : decode cX5_areFreeTogether 21 = .ok (.aload_n 0, 1) := by decide +kernel
theorem dX5_areFreeTogether_22 : decode cX5_areFreeTogether 22 = .ok (.getfield 19, 3) := by decide +kernel
theorem dX5_areFreeTogether_25 : decode cX5_areFreeTogether 25 = .ok (.iload_n 2, 1) := by decide +kernel
theorem dX5_areFreeTogether_26 : decode cX5_areFreeTogether 26 = .ok (.invokevirtual 191, 3) := by decide +kernel
theorem dX5_areFreeTogether_29 : decode cX5_areFreeTogether 29 = .ok (.checkcast 106, 3) := by decide +kernel
theorem dX5_areFreeTogether_32 : decode cX5_areFreeTogether 32 = .ok (.astore_n 3, 1) := by decide +kernel
theorem dX5_areFreeTogether_33 : decode cX5_areFreeTogether 33 = .ok (.aload_n 0, 1) := by decide +kernel
theorem dX5_areFreeTogether_34 : decode cX5_areFreeTogether 34 = .ok (.aload_n 3, 1) := by decide +kernel
theorem dX5_areFreeTogether_35 : decode cX5_areFreeTogether 35 = .ok (.invokevirtual 173, 3) := by decide +kernel
theorem dX5_areFreeTogether_38 : decode cX5_areFreeTogether 38 = .ok (.ifCond .eq 13, 3) := by decide +kernel
theorem dX5_areFreeTogether_41 : decode cX5_areFreeTogether 41 = .ok (.aload_n 0, 1) := by decide +kernel
theorem dX5_areFreeTogether_42 : decode cX5_areFreeTogether 42 = .ok (.aload_n 3, 1) := by decide +kernel
theorem dX5_areFreeTogether_43 : decode cX5_areFreeTogether 43 = .ok (.invokevirtual 279, 3) := by decide +kernel
theorem dX5_areFreeTogether_46 : decode cX5_areFreeTogether 46 = .ok (.iload_n 1, 1) := by decide +kernel
theorem dX5_areFreeTogether_47 : decode cX5_areFreeTogether 47 = .ok (.iand, 1) := by decide +kernel
theorem dX5_areFreeTogether_48 : decode cX5_areFreeTogether 48 = .ok (.ifCond .eq 5, 3) := by decide +kernel
theorem dX5_areFreeTogether_51 : decode cX5_areFreeTogether 51 = .ok (.iconst 0, 1) := by decide +kernel
theorem dX5_areFreeTogether_52 : decode cX5_areFreeTogether 52 = .ok (.ireturn, 1) := by decide +kernel
theorem dX5_areFreeTogether_53 : decode cX5_areFreeTogether 53 = .ok (.iinc 2 1, 3) := by decide +kernel
theorem dX5_areFreeTogether_56 : decode cX5_areFreeTogether 56 = .ok (.goto (-54), 3) := by decide +kernel
theorem dX5_areFreeTogether_59 : decode cX5_areFreeTogether 59 = .ok (.iconst 1, 1) := by decide +kernel
theorem dX5_areFreeTogether_60 : decode cX5_areFreeTogether 60 = .ok (.ireturn, 1) := by decide +kernel
set_option maxRecDepth 20000 in
theorem ggX5_conflictsOf_Jx4a65c_size_8abf5 : GoodIn wsX5_conflictsOf wsJx4a65c_size_8abf5 := goodIn_r _ [7, 8, 51, 52, 53] (by decide +kernel) (by decide +kernel)
set_option maxRecDepth 20000 in
theorem gX5_conflictsOf_Jx4a65c_size_8abf5 : GoodIn wsX5_conflictsOf (wsV RX5 50 RJx4a65c yJx4a65c_size_8abf5 wsJx4a65c_size_8abf5) := goodIn_app (goodIn_of _ (by decide +kernel)) ggX5_conflictsOf_Jx4a65c_size_8abf5
set_option maxRecDepth 20000 in
theorem ggX5_conflictsOf_Jx4a65c_get_915e3 : GoodIn wsX5_conflictsOf wsJx4a65c_get_915e3 := goodIn_r _ [12, 8, 13, 14, 15, 16, 17, 18, 19, 20, 21, 22, 23, 6, 24, 25, 51, 52, 53] (by decide +kernel) (by decide +kernel)
set_option maxRecDepth 20000 in
theorem gX5_conflictsOf_Jx4a65c_get_915e3 : GoodIn wsX5_conflictsOf (wsV RX5 191 RJx4a65c yJx4a65c_get_915e3 wsJx4a65c_get_915e3) := goodIn_app (goodIn_of _ (by decide +kernel)) ggX5_conflictsOf_Jx4a65c_get_915e3
set_option maxRecDepth 20000 in
theorem ggX5_conflictsOf_X5_areInConflict : GoodIn wsX5_conflictsOf wsX5_areInConflict := goodIn_r _ [30, 31, 32, 33, 34, 35, 36, 37, 38, 39, 40, 41, 42, 43, 54, 55, 56, 57, 58, 59, 60, 61, 62, 63, 64, 65, 44, 45, 46, 47, 48, 49, 50] (by decide +kernel) (by decide +kernel)
set_option maxRecDepth 20000 in
theorem gX5_conflictsOf_X5_areInConflict : GoodIn wsX5_conflictsOf (wsV RX5 169 RX5 yX5_areInConflict wsX5_areInConflict) := goodIn_app (goodIn_of _ (by decide +kernel)) ggX5_conflictsOf_X5_areInConflict
theorem dX5_conflictsOf_0 : decode cX5_conflictsOf 0 = .ok (.iconst 0, 1) := by decide +kernel
theorem dX5_conflictsOf_1 : decode cX5_conflictsOf 1 = .ok (.istore_n 2, 1) := by decide +kernel
theorem dX5_conflictsOf_2 : decode cX5_conflictsOf 2 = .ok (.iconst 0, 1) := by decide +kernel
theorem dX5_conflictsOf_3 : decode cX5_conflictsOf 3 = .ok (.istore_n 3, 1) := by decide +kernel
theorem dX5_conflictsOf_4 : decode cX5_conflictsOf 4 = .ok (.iload_n 3, 1) := by decide +kernel
theorem dX5_conflictsOf_5 : decode cX5_conflictsOf 5 = .ok (.aload_n 0, 1) := by decide +kernel
theorem dX5_conflictsOf_6 : decode cX5_conflictsOf 6 = .ok (.getfield 19, 3) := by decide +kernel
theorem dX5_conflictsOf_9 : decode cX5_conflictsOf 9 = .ok (.invokevirtual 50, 3) := by decide +kernel
theorem dX5_conflictsOf_12 : decode cX5_conflictsOf 12 = .ok (.if_icmp .ge 44, 3) := by decide +kernel
theorem dX5_conflictsOf_15 : decode cX5_conflictsOf 15 = .ok (.aload_n 0, 1) := by decide +kernel
theorem dX5_conflictsOf_16 : decode cX5_conflictsOf 16 = .ok (.getfield 19, 3) := by decide +kernel
theorem dX5_conflictsOf_19 : decode cX5_conflictsOf 19 = .ok (.iload_n 3, 1) := by decide +kernel
theorem dX5_conflictsOf_20 : decode cX5_conflictsOf 20 = .ok (.invokevirtual 191, 3) := by decide +kernel
theorem dX5_conflictsOf_23 : decode cX5_conflictsOf 23 = .ok (.checkcast 106, 3) := by decide +kernel
theorem dX5_conflictsOf_26 : decode cX5_conflictsOf 26 = .ok (.astore 4, 2) := by decide +kernel
theorem dX5_conflictsOf_28 : decode cX5_conflictsOf 28 = .ok (.aload 4, 2) := by decide +kernel
theorem dX5_conflictsOf_30 : decode cX5_conflictsOf 30 = .ok (.aload_n 1, 1) := by decide +kernel
theorem dX5_conflictsOf_31 : decode cX5_conflictsOf 31 = .ok (.if_acmp .eq 19, 3) := by decide +kernel
theorem dX5_conflictsOf_34 : decode cX5_conflictsOf 34 = .ok (.aload_n 0, 1) := by decide +kernel
theorem dX5_conflictsOf_35 : decode cX5_conflictsOf 35 = .ok (.aload_n 1, 1) := by decide +kernel
theorem dX5_conflictsOf_36 : decode cX5_conflictsOf 36 = .ok (.aload 4, 2) := by decide +kernel
theorem dX5_conflictsOf_38 : decode cX5_conflictsOf 38 = .ok (.invokevirtual 169, 3) := by decide +kernel
theorem dX5_conflictsOf_41 : decode cX5_conflictsOf 41 = .ok (.ifCond .eq 9, 3) := by decide +kernel
theorem dX5_conflictsOf_44 : decode cX5_conflictsOf 44 = .ok (.iload_n 2, 1) := by decide +kernel
theorem dX5_conflictsOf_45 : decode cX5_conflictsOf 45 = .ok (.iconst 1, 1) := by decide +kernel
theorem dX5_conflictsOf_46 : decode cX5_conflictsOf 46 = .ok (.iload_n 3, 1) := by decide +kernel
theorem dX5_conflictsOf_47 : decode cX5_conflictsOf 47 = .ok (.ishl, 1) := by decide +kernel
theorem dX5_conflictsOf_48 : decode cX5_conflictsOf 48 = .ok (.ior, 1) := by decide +kernel
theorem dX5_conflictsOf_49 : decode cX5_conflictsOf 49 = .ok (.istore_n 2, 1) := by decide +kernel
theorem dX5_conflictsOf_50 : decode cX5_conflictsOf 50 = .ok (.iinc 3 1, 3) := by decide +kernel
theorem dX5_conflictsOf_53 : decode cX5_conflictsOf 53 = .ok (.goto (-49), 3) := by decide +kernel
theorem dX5_conflictsOf_56 : decode cX5_conflictsOf 56 = .ok (.iload_n 2, 1) := by decide +kernel
theorem dX5_conflictsOf_57 : decode cX5_conflictsOf 57 = .ok (.ireturn, 1) := by decide +kernel
set_option maxRecDepth 20000 in
theorem ggX5_takenSet_Jx4a65c_size_8abf5 : GoodIn wsX5_takenSet wsJx4a65c_size_8abf5 := goodIn_r _ [8, 9, 41, 42, 43] (by decide +kernel) (by decide +kernel)
set_option maxRecDepth 20000 in
theorem gX5_takenSet_Jx4a65c_size_8abf5 : GoodIn wsX5_takenSet (wsV RX5 50 RJx4a65c yJx4a65c_size_8abf5 wsJx4a65c_size_8abf5) := goodIn_app (goodIn_of _ (by decide +kernel)) ggX5_takenSet_Jx4a65c_size_8abf5
set_option maxRecDepth 20000 in
theorem ggX5_takenSet_Jx4a65c_get_915e3 : GoodIn wsX5_takenSet wsJx4a65c_get_915e3 := goodIn_r _ [13, 9, 14, 15, 16, 17, 18, 19, 20, 21, 22, 23, 24, 7, 25, 26, 41, 42, 43] (by decide +kernel) (by decide +kernel)
set_option maxRecDepth 20000 in
theorem gX5_takenSet_Jx4a65c_get_915e3 : GoodIn wsX5_takenSet (wsV RX5 191 RJx4a65c yJx4a65c_get_915e3 wsJx4a65c_get_915e3) := goodIn_app (goodIn_of _ (by decide +kernel)) ggX5_takenSet_Jx4a65c_get_915e3
theorem dX5_takenSet_0 : decode cX5_takenSet 0 = .ok (.iconst 0, 1) := by decide +kernel
theorem dX5_takenSet_1 : decode cX5_takenSet 1 = .ok (.istore_n 1, 1) := by decide +kernel
theorem dX5_takenSet_2 : decode cX5_takenSet 2 = .ok (.iconst 0, 1) := by decide +kernel
theorem dX5_takenSet_3 : decode cX5_takenSet 3 = .ok (.istore_n 2, 1) := by decide +kernel
theorem dX5_takenSet_4 : decode cX5_takenSet 4 = .ok (.iload_n 2, 1) := by decide +kernel
theorem dX5_takenSet_5 : decode cX5_takenSet 5 = .ok (.aload_n 0, 1) := by decide +kernel
theorem dX5_takenSet_6 : decode cX5_takenSet 6 = .ok (.getfield 19, 3) := by decide +kernel
theorem dX5_takenSet_9 : decode cX5_takenSet 9 = .ok (.invokevirtual 50, 3) := by decide +kernel
theorem dX5_takenSet_12 : decode cX5_takenSet 12 = .ok (.if_icmp .ge 32, 3) := by decide +kernel
theorem dX5_takenSet_15 : decode cX5_takenSet 15 = .ok (.aload_n 0, 1) := by decide +kernel
theorem dX5_takenSet_16 : decode cX5_takenSet 16 = .ok (.getfield 19, 3) := by decide +kernel
theorem dX5_takenSet_19 : decode cX5_takenSet 19 = .ok (.iload_n 2, 1) := by decide +kernel
theorem dX5_takenSet_20 : decode cX5_takenSet 20 = .ok (.invokevirtual 191, 3) := by decide +kernel
theorem dX5_takenSet_23 : decode cX5_takenSet 23 = .ok (.checkcast 106, 3) := by decide +kernel
theorem dX5_takenSet_26 : decode cX5_takenSet 26 = .ok (.getfield 154, 3) := by decide +kernel
theorem dX5_takenSet_29 : decode cX5_takenSet 29 = .ok (.ifCond .eq 9, 3) := by decide +kernel
theorem dX5_takenSet_32 : decode cX5_takenSet 32 = .ok (.iload_n 1, 1) := by decide +kernel
theorem dX5_takenSet_33 : decode cX5_takenSet 33 = .ok (.iconst 1, 1) := by decide +kernel
theorem dX5_takenSet_34 : decode cX5_takenSet 34 = .ok (.iload_n 2, 1) := by decide +kernel
theorem dX5_takenSet_35 : decode cX5_takenSet 35 = .ok (.ishl, 1) := by decide +kernel
theorem dX5_takenSet_36 : decode cX5_takenSet 36 = .ok (.ior, 1) := by decide +kernel
theorem dX5_takenSet_37 : decode cX5_takenSet 37 = .ok (.istore_n 1, 1) := by decide +kernel
theorem dX5_takenSet_38 : decode cX5_takenSet 38 = .ok (.iinc 2 1, 3) := by decide +kernel
theorem dX5_takenSet_41 : decode cX5_takenSet 41 = .ok (.goto (-37), 3) := by decide +kernel
theorem dX5_takenSet_44 : decode cX5_takenSet 44 = .ok (.iload_n 1, 1) := by decide +kernel
theorem dX5_takenSet_45 : decode cX5_takenSet 45 = .ok (.ireturn, 1) := by decide +kernel
set_option maxRecDepth 20000 in
theorem ggX5_startOf_Jx4a65c_size_8abf5 : GoodIn wsX5_startOf wsJx4a65c_size_8abf5 := goodIn_r _ [15, 16, 55, 56, 57] (by decide +kernel) (by decide +kernel)
set_option maxRecDepth 20000 in
theorem gX5_startOf_Jx4a65c_size_8abf5 : GoodIn wsX5_startOf (wsV RX5 50 RJx4a65c yJx4a65c_size_8abf5 wsJx4a65c_size_8abf5) := goodIn_app (goodIn_of _ (by decide +kernel)) ggX5_startOf_Jx4a65c_size_8abf5
set_option maxRecDepth 20000 in
theorem ggX5_startOf_Jx4a65c_get_915e3 : GoodIn wsX5_startOf wsJx4a65c_get_915e3 := goodIn_r _ [20, 16, 21, 22, 23, 24, 25, 26, 27, 28, 29, 30, 31, 14, 32, 33, 55, 56, 57] (by decide +kernel) (by decide +kernel)
set_option maxRecDepth 20000 in
theorem gX5_startOf_Jx4a65c_get_915e3 : GoodIn wsX5_startOf (wsV RX5 191 RJx4a65c yJx4a65c_get_915e3 wsJx4a65c_get_915e3) := goodIn_app (goodIn_of _ (by decide +kernel)) ggX5_startOf_Jx4a65c_get_915e3
set_option maxRecDepth 20000 in
theorem ggX5_startOf_X2_isEarlierThan : GoodIn wsX5_startOf wsX2_isEarlierThan := goodIn_r _ [38, 39, 40, 41, 42, 43, 44, 45, 46, 47] (by decide +kernel) (by decide +kernel)
set_option maxRecDepth 20000 in
theorem gX5_startOf_X2_isEarlierThan : GoodIn wsX5_startOf (wsV RX5 270 RX2 yX2_isEarlierThan wsX2_isEarlierThan) := goodIn_app (goodIn_of _ (by decide +kernel)) ggX5_startOf_X2_isEarlierThan
theorem dX5_startOf_0 : decode cX5_startOf 0 = .ok (.aload_n 1, 1) := by decide +kernel
theorem dX5_startOf_1 : decode cX5_startOf 1 = .ok (.getfield 145, 3) := by decide +kernel
theorem dX5_startOf_4 : decode cX5_startOf 4 = .ok (.istore_n 2, 1) := by decide +kernel
theorem dX5_startOf_5 : decode cX5_startOf 5 = .ok (.iconst 0, 1) := by decide +kernel
theorem dX5_startOf_6 : decode cX5_startOf 6 = .ok (.istore_n 3, 1) := by decide +kernel
theorem dX5_startOf_7 : decode cX5_startOf 7 = .ok (.iload_n 3, 1) := by decide +kernel
theorem dX5_startOf_8 : decode cX5_startOf 8 = .ok (.aload_n 0, 1) := by decide +kernel
theorem dX5_startOf_9 : decode cX5_startOf 9 = .ok (.getfield 19, 3) := by decide +kernel
theorem dX5_startOf_12 : decode cX5_startOf 12 = .ok (.invokevirtual 50, 3) := by decide +kernel
theorem dX5_startOf_15 : decode cX5_startOf 15 = .ok (.if_icmp .ge 61, 3) := by decide +kernel
theorem dX5_startOf_18 : decode cX5_startOf 18 = .ok (.aload_n 0, 1) := by decide +kernel
theorem dX5_startOf_19 : decode cX5_startOf 19 = .ok (.getfield 19, 3) := by decide +kernel
theorem dX5_startOf_22 : decode cX5_startOf 22 = .ok (.iload_n 3, 1) := by decide +kernel
theorem dX5_startOf_23 : decode cX5_startOf 23 = .ok (.invokevirtual 191, 3) := by decide +kernel
theorem dX5_startOf_26 : decode cX5_startOf 26 = .ok (.checkcast 106, 3) := by decide +kernel
theorem dX5_startOf_29 : decode cX5_startOf 29 = .ok (.astore 4, 2) := by decide +kernel
theorem dX5_startOf_31 : decode cX5_startOf 31 = .ok (.aload 4, 2) := by decide +kernel
theorem dX5_startOf_33 : decode cX5_startOf 33 = .ok (.getfield 154, 3) := by decide +kernel
theorem dX5_startOf_36 : decode cX5_startOf 36 = .ok (.ifCond .eq 34, 3) := by decide +kernel
theorem dX5_startOf_39 : decode cX5_startOf 39 = .ok (.aload 4, 2) := by decide +kernel
theorem dX5_startOf_41 : decode cX5_startOf 41 = .ok (.getfield 133, 3) := by decide +kernel
theorem dX5_startOf_44 : decode cX5_startOf 44 = .ok (.aload_n 1, 1) := by decide +kernel
theorem dX5_startOf_45 : decode cX5_startOf 45 = .ok (.getfield 133, 3) := by decide +kernel
theorem dX5_startOf_48 : decode cX5_startOf 48 = .ok (.if_acmp .ne 22, 3) := by decide +kernel
theorem dX5_startOf_51 : decode cX5_startOf 51 = .ok (.aload 4, 2) := by decide +kernel
theorem dX5_startOf_53 : decode cX5_startOf 53 = .ok (.aload_n 1, 1) := by decide +kernel
theorem dX5_startOf_54 : decode cX5_startOf 54 = .ok (.invokevirtual 270, 3) := by decide +kernel
theorem dX5_startOf_57 : decode cX5_startOf 57 = .ok (.ifCond .eq 13, 3) := by decide +kernel
theorem dX5_startOf_60 : decode cX5_startOf 60 = .ok (.iload_n 2, 1) := by decide +kernel
theorem dX5_startOf_61 : decode cX5_startOf 61 = .ok (.aload 4, 2) := by decide +kernel
theorem dX5_startOf_63 : decode cX5_startOf 63 = .ok (.getfield 148, 3) := by decide +kernel
theorem dX5_startOf_66 : decode cX5_startOf 66 = .ok (.invokestatic 282, 3) := by decide +kernel
theorem dX5_startOf_69 : decode cX5_startOf 69 = .ok (.istore_n 2, 1) := by decide +kernel
theorem dX5_startOf_70 : decode cX5_startOf 70 = .ok (.iinc 3 1, 3) := by decide +kernel
theorem dX5_startOf_73 : decode cX5_startOf 73 = .ok (.goto (-66), 3) := by decide +kernel
theorem dX5_startOf_76 : decode cX5_startOf 76 = .ok (.iload_n 2, 1) := by decide +kernel
theorem dX5_startOf_77 : decode cX5_startOf 77 = .ok (.ireturn, 1) := by decide +kernel
set_option maxRecDepth 20000 in
theorem ggX5_isHeard_X5_startOf : GoodIn wsX5_isHeard wsX5_startOf := goodIn_r _ [9, 2, 10, 11, 1, 12, 4, 13, 14, 15, 16, 17, 18, 19, 20, 21, 22, 23, 24, 25, 26, 27, 28, 29, 30, 31, 32, 33, 34, 35, 36, 37, 38, 39, 40, 41, 42, 43, 44, 45, 46, 47, 48, 49, 50, 51, 52, 53, 54, 55, 56, 57, 58, 59, 60, 61, 62, 63] (by decide +kernel) (by decide +kernel)
set_option maxRecDepth 20000 in
theorem gX5_isHeard_X5_startOf : GoodIn wsX5_isHeard (wsV RX5 161 RX5 yX5_startOf wsX5_startOf) := goodIn_app (goodIn_of _ (by decide +kernel)) ggX5_isHeard_X5_startOf
theorem dX5_isHeard_0 : decode cX5_isHeard 0 = .ok (.aload_n 1, 1) := by decide +kernel
theorem dX5_isHeard_1 : decode cX5_isHeard 1 = .ok (.getfield 154, 3) := by decide +kernel
theorem dX5_isHeard_4 : decode cX5_isHeard 4 = .ok (.ifCond .eq 41, 3) := by decide +kernel
theorem dX5_isHeard_7 : decode cX5_isHeard 7 = .ok (.aload_n 1, 1) := by decide +kernel
theorem dX5_isHeard_8 : decode cX5_isHeard 8 = .ok (.getfield 145, 3) := by decide +kernel
theorem dX5_isHeard_11 : decode cX5_isHeard 11 = .ok (.aload_n 0, 1) := by decide +kernel
theorem dX5_isHeard_12 : decode cX5_isHeard 12 = .ok (.getfield 32, 3) := by decide +kernel
theorem dX5_isHeard_15 : decode cX5_isHeard 15 = .ok (.if_icmp .gt 30, 3) := by decide +kernel
theorem dX5_isHeard_18 : decode cX5_isHeard 18 = .ok (.aload_n 0, 1) := by decide +kernel
theorem dX5_isHeard_19 : decode cX5_isHeard 19 = .ok (.getfield 32, 3) := by decide +kernel
theorem dX5_isHeard_22 : decode cX5_isHeard 22 = .ok (.aload_n 1, 1) := by decide +kernel
theorem dX5_isHeard_23 : decode cX5_isHeard 23 = .ok (.getfield 148, 3) := by decide +kernel
theorem dX5_isHeard_26 : decode cX5_isHeard 26 = .ok (.if_icmp .ge 19, 3) := by decide +kernel
theorem dX5_isHeard_29 : decode cX5_isHeard 29 = .ok (.aload_n 0, 1) := by decide +kernel
theorem dX5_isHeard_30 : decode cX5_isHeard 30 = .ok (.aload_n 1, 1) := by decide +kernel
theorem dX5_isHeard_31 : decode cX5_isHeard 31 = .ok (.invokevirtual 161, 3) := by decide +kernel
theorem dX5_isHeard_34 : decode cX5_isHeard 34 = .ok (.aload_n 0, 1) := by decide +kernel
theorem dX5_isHeard_35 : decode cX5_isHeard 35 = .ok (.getfield 32, 3) := by decide +kernel
theorem dX5_isHeard_38 : decode cX5_isHeard 38 = .ok (.if_icmp .gt 7, 3) := by decide +kernel
theorem dX5_isHeard_41 : decode cX5_isHeard 41 = .ok (.iconst 1, 1) := by decide +kernel
theorem dX5_isHeard_42 : decode cX5_isHeard 42 = .ok (.goto 4, 3) := by decide +kernel
theorem dX5_isHeard_45 : decode cX5_isHeard 45 = .ok (.iconst 0, 1) := by decide +kernel
theorem dX5_isHeard_46 : decode cX5_isHeard 46 = .ok (.ireturn, 1) := by decide +kernel
set_option maxRecDepth 20000 in
theorem ggX5_prepareSearch_Jx4a65c_size_8abf5 : GoodIn wsX5_prepareSearch wsJx4a65c_size_8abf5 := goodIn_r _ [12, 13, 95, 96, 97] (by decide +kernel) (by decide +kernel)
set_option maxRecDepth 20000 in
theorem gX5_prepareSearch_Jx4a65c_size_8abf5 : GoodIn wsX5_prepareSearch (wsV RX5 50 RJx4a65c yJx4a65c_size_8abf5 wsJx4a65c_size_8abf5) := goodIn_app (goodIn_of _ (by decide +kernel)) ggX5_prepareSearch_Jx4a65c_size_8abf5
set_option maxRecDepth 20000 in
theorem ggX5_prepareSearch_Jx4a65c_get_915e3 : GoodIn wsX5_prepareSearch wsJx4a65c_get_915e3 := goodIn_r _ [17, 13, 18, 19, 20, 21, 22, 23, 24, 25, 26, 27, 28, 11, 29, 30, 95, 96, 97] (by decide +kernel) (by decide +kernel)
set_option maxRecDepth 20000 in
theorem gX5_prepareSearch_Jx4a65c_get_915e3 : GoodIn wsX5_prepareSearch (wsV RX5 191 RJx4a65c yJx4a65c_get_915e3 wsJx4a65c_get_915e3) := goodIn_app (goodIn_of _ (by decide +kernel)) ggX5_prepareSearch_Jx4a65c_get_915e3
set_option maxRecDepth 20000 in
theorem ggX5_prepareSearch_X2_worth : GoodIn wsX5_prepareSearch wsX2_worth := goodIn_r _ [35, 36, 37, 38, 39, 98, 99, 100, 101, 102, 103, 104, 105, 106, 107, 108, 109, 110, 111, 112] (by decide +kernel) (by decide +kernel)
set_option maxRecDepth 20000 in
theorem gX5_prepareSearch_X2_worth : GoodIn wsX5_prepareSearch (wsV RX5 151 RX2 yX2_worth wsX2_worth) := goodIn_app (goodIn_of _ (by decide +kernel)) ggX5_prepareSearch_X2_worth
set_option maxRecDepth 20000 in
theorem ggX5_prepareSearch_X5_conflictsOf : GoodIn wsX5_prepareSearch wsX5_conflictsOf := goodIn_r _ [44, 1, 2, 8, 9, 10, 11, 12, 13, 14, 15, 16, 17, 18, 19, 20, 21, 22, 23, 24, 25, 26, 27, 28, 29, 30, 45, 46, 47, 43, 48, 49, 50, 51, 52, 53, 54, 55, 56, 57, 34, 58, 39, 59, 84, 85, 86, 87, 88, 89, 90, 95, 96, 97, 98, 99, 100, 101, 102, 103, 104, 113, 114, 115, 116, 117] (by decide +kernel) (by decide +kernel)
set_option maxRecDepth 20000 in
theorem gX5_prepareSearch_X5_conflictsOf : GoodIn wsX5_prepareSearch (wsV RX5 279 RX5 yX5_conflictsOf wsX5_conflictsOf) := goodIn_app (goodIn_of _ (by decide +kernel)) ggX5_prepareSearch_X5_conflictsOf
set_option maxRecDepth 20000 in
theorem ggX5_prepareSearch_X5_isFree : GoodIn wsX5_prepareSearch wsX5_isFree := goodIn_r _ [63, 64, 50, 65, 49, 51, 66, 67, 68, 43, 69, 70, 71, 72, 8, 9, 10, 11, 12, 13, 14, 15, 16, 17, 18, 19, 20, 21, 22, 23, 24, 25, 26, 27, 28, 29, 30, 73, 74, 75, 76, 77, 78, 79, 80, 81, 82, 83, 1, 2, 45, 46, 47, 48, 52, 53, 54, 55, 56, 57, 34, 58, 39, 59, 98, 99, 100, 101, 102, 103, 104, 84, 85, 86, 87, 88, 89, 90, 118, 119, 120, 95, 96, 97, 113, 114, 115, 116, 117] (by decide +kernel) (by decide +kernel)
set_option maxRecDepth 20000 in
theorem gX5_prepareSearch_X5_isFree : GoodIn wsX5_prepareSearch (wsV RX5 173 RX5 yX5_isFree wsX5_isFree) := goodIn_app (goodIn_of _ (by decide +kernel)) ggX5_prepareSearch_X5_isFree
theorem dX5_prepareSearch_0 : decode cX5_prepareSearch 0 = .ok (.iconst 0, 1) := by decide +kernel
theorem dX5_prepareSearch_1 : decode cX5_prepareSearch 1 = .ok (.istore_n 1, 1) := by decide +kernel
theorem dX5_prepareSearch_2 : decode cX5_prepareSearch 2 = .ok (.iconst 0, 1) := by decide +kernel
theorem dX5_prepareSearch_3 : decode cX5_prepareSearch 3 = .ok (.istore_n 2, 1) := by decide +kernel
theorem dX5_prepareSearch_4 : decode cX5_prepareSearch 4 = .ok (.iload_n 2, 1) := by decide +kernel
theorem dX5_prepareSearch_5 : decode cX5_prepareSearch 5 = .ok (.aload_n 0, 1) := by decide +kernel
theorem dX5_prepareSearch_6 : decode cX5_prepareSearch 6 = .ok (.getfield 19, 3) := by decide +kernel
theorem dX5_prepareSearch_9 : decode cX5_prepareSearch 9 = .ok (.invokevirtual 50, 3) := by decide +kernel
theorem dX5_prepareSearch_12 : decode cX5_prepareSearch 12 = .ok (.if_icmp .ge 68, 3) := by decide +kernel
theorem dX5_prepareSearch_15 : decode cX5_prepareSearch 15 = .ok (.iload_n 2, 1) := by decide +kernel
theorem dX5_prepareSearch_16 : decode cX5_prepareSearch 16 = .ok (.bipush 16, 2) := by decide +kernel
theorem dX5_prepareSearch_18 : decode cX5_prepareSearch 18 = .ok (.if_icmp .ge 62, 3) := by decide +kernel
theorem dX5_prepareSearch_21 : decode cX5_prepareSearch 21 = .ok (.aload_n 0, 1) := by decide +kernel
theorem dX5_prepareSearch_22 : decode cX5_prepareSearch 22 = .ok (.getfield 19, 3) := by decide +kernel
theorem dX5_prepareSearch_25 : decode cX5_prepareSearch 25 = .ok (.iload_n 2, 1) := by decide +kernel
theorem dX5_prepareSearch_26 : decode cX5_prepareSearch 26 = .ok (.invokevirtual 191, 3) := by decide +kernel
theorem dX5_prepareSearch_29 : decode cX5_prepareSearch 29 = .ok (.checkcast 106, 3) := by decide +kernel
theorem dX5_prepareSearch_32 : decode cX5_prepareSearch 32 = .ok (.astore_n 3, 1) := by decide +kernel
theorem dX5_prepareSearch_33 : decode cX5_prepareSearch 33 = .ok (.aload_n 0, 1) := by decide +kernel
theorem dX5_prepareSearch_34 : decode cX5_prepareSearch 34 = .ok (.getfield 28, 3) := by decide +kernel
theorem dX5_prepareSearch_37 : decode cX5_prepareSearch 37 = .ok (.getfield 287, 3) := by decide +kernel
theorem dX5_prepareSearch_40 : decode cX5_prepareSearch 40 = .ok (.iload_n 2, 1) := by decide +kernel
theorem dX5_prepareSearch_41 : decode cX5_prepareSearch 41 = .ok (.aload_n 3, 1) := by decide +kernel
theorem dX5_prepareSearch_42 : decode cX5_prepareSearch 42 = .ok (.invokevirtual 151, 3) := by decide +kernel
theorem dX5_prepareSearch_45 : decode cX5_prepareSearch 45 = .ok (.iastore, 1) := by decide +kernel
theorem dX5_prepareSearch_46 : decode cX5_prepareSearch 46 = .ok (.aload_n 0, 1) := by decide +kernel
theorem dX5_prepareSearch_47 : decode cX5_prepareSearch 47 = .ok (.getfield 28, 3) := by decide +kernel
theorem dX5_prepareSearch_50 : decode cX5_prepareSearch 50 = .ok (.getfield 291, 3) := by decide +kernel
theorem dX5_prepareSearch_53 : decode cX5_prepareSearch 53 = .ok (.iload_n 2, 1) := by decide +kernel
theorem dX5_prepareSearch_54 : decode cX5_prepareSearch 54 = .ok (.aload_n 0, 1) := by decide +kernel
theorem dX5_prepareSearch_55 : decode cX5_prepareSearch 55 = .ok (.aload_n 3, 1) := by decide +kernel
theorem dX5_prepareSearch_56 : decode cX5_prepareSearch 56 = .ok (.invokevirtual 279, 3) := by decide +kernel
theorem dX5_prepareSearch_59 : decode cX5_prepareSearch 59 = .ok (.iastore, 1) := by decide +kernel
theorem dX5_prepareSearch_60 : decode cX5_prepareSearch 60 = .ok (.aload_n 0, 1) := by decide +kernel
theorem dX5_prepareSearch_61 : decode cX5_prepareSearch 61 = .ok (.aload_n 3, 1) := by decide +kernel
theorem dX5_prepareSearch_62 : decode cX5_prepareSearch 62 = .ok (.invokevirtual 173, 3) := by decide +kernel
theorem dX5_prepareSearch_65 : decode cX5_prepareSearch 65 = .ok (.ifCond .eq 9, 3) := by decide +kernel
theorem dX5_prepareSearch_68 : decode cX5_prepareSearch 68 = .ok (.iload_n 1, 1) := by decide +kernel
theorem dX5_prepareSearch_69 : decode cX5_prepareSearch 69 = .ok (.iconst 1, 1) := by decide +kernel
theorem dX5_prepareSearch_70 : decode cX5_prepareSearch 70 = .ok (.iload_n 2, 1) := by decide +kernel
theorem dX5_prepareSearch_71 : decode cX5_prepareSearch 71 = .ok (.ishl, 1) := by decide +kernel
theorem dX5_prepareSearch_72 : decode cX5_prepareSearch 72 = .ok (.ior, 1) := by decide +kernel
theorem dX5_prepareSearch_73 : decode cX5_prepareSearch 73 = .ok (.istore_n 1, 1) := by decide +kernel
theorem dX5_prepareSearch_74 : decode cX5_prepareSearch 74 = .ok (.iinc 2 1, 3) := by decide +kernel
theorem dX5_prepareSearch_77 : decode cX5_prepareSearch 77 = .ok (.goto (-73), 3) := by decide +kernel
theorem dX5_prepareSearch_80 : decode cX5_prepareSearch 80 = .ok (.aload_n 0, 1) := by decide +kernel
theorem dX5_prepareSearch_81 : decode cX5_prepareSearch 81 = .ok (.getfield 28, 3) := by decide +kernel
theorem dX5_prepareSearch_84 : decode cX5_prepareSearch 84 = .ok (.iconst 0, 1) := by decide +kernel
theorem dX5_prepareSearch_85 : decode cX5_prepareSearch 85 = .ok (.putfield 184, 3) := by decide +kernel
theorem dX5_prepareSearch_88 : decode cX5_prepareSearch 88 = .ok (.aload_n 0, 1) := by decide +kernel
theorem dX5_prepareSearch_89 : decode cX5_prepareSearch 89 = .ok (.getfield 28, 3) := by decide +kernel
theorem dX5_prepareSearch_92 : decode cX5_prepareSearch 92 = .ok (.iconst 0, 1) := by decide +kernel
theorem dX5_prepareSearch_93 : decode cX5_prepareSearch 93 = .ok (.putfield 294, 3) := by decide +kernel
theorem dX5_prepareSearch_96 : decode cX5_prepareSearch 96 = .ok (.iload_n 1, 1) := by decide +kernel
theorem dX5_prepareSearch_97 : decode cX5_prepareSearch 97 = .ok (.ireturn, 1) := by decide +kernel
set_option maxRecDepth 20000 in
theorem ggX5_searchFrom_X4_offer : GoodIn wsX5_searchFrom wsX4_offer := goodIn_r _ [8, 9, 10, 11, 12, 13, 7, 14, 15, 16, 17, 18, 19, 20, 21, 33, 34, 35, 36] (by decide +kernel) (by decide +kernel)
set_option maxRecDepth 20000 in
theorem gX5_searchFrom_X4_offer : GoodIn wsX5_searchFrom (wsV RX5 297 RX4 yX4_offer wsX4_offer) := goodIn_app (goodIn_of _ (by decide +kernel)) ggX5_searchFrom_X4_offer
set_option maxRecDepth 20000 in
theorem ggX5_searchFrom_X4_weightOf : GoodIn wsX5_searchFrom wsX4_weightOf := goodIn_r _ [25, 26, 27, 28, 29, 33, 34, 35, 36] (by decide +kernel) (by decide +kernel)
set_option maxRecDepth 20000 in
theorem gX5_searchFrom_X4_weightOf : GoodIn wsX5_searchFrom (wsV RX5 300 RX4 yX4_weightOf wsX4_weightOf) := goodIn_app (goodIn_of _ (by decide +kernel)) ggX5_searchFrom_X4_weightOf
set_option maxRecDepth 20000 in
theorem ggX5_searchFrom_X5_contains : GoodIn wsX5_searchFrom wsX5_contains := goodIn_r _ [29] (by decide +kernel) (by decide +kernel)
set_option maxRecDepth 20000 in
theorem gX5_searchFrom_X5_contains : GoodIn wsX5_searchFrom (va_wsS RX5 98 yX5_contains wsX5_contains) := goodIn_app (goodIn_of _ (by decide +kernel)) ggX5_searchFrom_X5_contains
set_option maxRecDepth 20000 in
theorem ggX5_searchFrom_X5_searchFrom : GoodIn wsX5_searchFrom wsX5_searchFrom := goodIn_r _ [0, 1, 2, 3, 4, 5, 6, 7, 8, 9, 10, 11, 12, 13, 14, 15, 16, 17, 18, 19, 20, 21, 22, 23, 24, 25, 26, 27, 28, 29, 30, 31, 32, 33, 34, 35, 36] (by decide +kernel) (by decide +kernel)
set_option maxRecDepth 20000 in
theorem gX5_searchFrom_X5_searchFrom : GoodIn wsX5_searchFrom (va_wsS RX5 180 yX5_searchFrom wsX5_searchFrom) := goodIn_app (goodIn_of _ (by decide +kernel)) ggX5_searchFrom_X5_searchFrom
theorem dX5_searchFrom_0 : decode cX5_searchFrom 0 = .ok (.iload_n 3, 1) := by decide +kernel
theorem dX5_searchFrom_1 : decode cX5_searchFrom 1 = .ok (.ifCond .eq 13, 3) := by decide +kernel
theorem dX5_searchFrom_4 : decode cX5_searchFrom 4 = .ok (.iload_n 1, 1) := by decide +kernel
theorem dX5_searchFrom_5 : decode cX5_searchFrom 5 = .ok (.ifCond .lt 9, 3) := by decide +kernel
theorem dX5_searchFrom_8 : decode cX5_searchFrom 8 = .ok (.iload_n 1, 1) := by decide +kernel
theorem dX5_searchFrom_9 : decode cX5_searchFrom 9 = .ok (.bipush 16, 2) := by decide +kernel
theorem dX5_searchFrom_11 : decode cX5_searchFrom 11 = .ok (.if_icmp .lt 11, 3) := by decide +kernel
theorem dX5_searchFrom_14 : decode cX5_searchFrom 14 = .ok (.aload_n 0, 1) := by decide +kernel
theorem dX5_searchFrom_15 : decode cX5_searchFrom 15 = .ok (.iload_n 2, 1) := by decide +kernel
theorem dX5_searchFrom_16 : decode cX5_searchFrom 16 = .ok (.iload 4, 2) := by decide +kernel
theorem dX5_searchFrom_18 : decode cX5_searchFrom 18 = .ok (.invokevirtual 297, 3) := by decide +kernel
theorem dX5_searchFrom_21 : decode cX5_searchFrom 21 = .ok (.return_, 1) := by decide +kernel
theorem dX5_searchFrom_22 : decode cX5_searchFrom 22 = .ok (.iload 4, 2) := by decide +kernel
theorem dX5_searchFrom_24 : decode cX5_searchFrom 24 = .ok (.aload_n 0, 1) := by decide +kernel
theorem dX5_searchFrom_25 : decode cX5_searchFrom 25 = .ok (.iload_n 3, 1) := by decide +kernel
theorem dX5_searchFrom_26 : decode cX5_searchFrom 26 = .ok (.invokevirtual 300, 3) := by decide +kernel
theorem dX5_searchFrom_29 : decode cX5_searchFrom 29 = .ok (.iadd, 1) := by decide +kernel
theorem dX5_searchFrom_30 : decode cX5_searchFrom 30 = .ok (.aload_n 0, 1) := by decide +kernel
theorem dX5_searchFrom_31 : decode cX5_searchFrom 31 = .ok (.getfield 294, 3) := by decide +kernel
theorem dX5_searchFrom_34 : decode cX5_searchFrom 34 = .ok (.if_icmp .ge 4, 3) := by decide +kernel
theorem dX5_searchFrom_37 : decode cX5_searchFrom 37 = .ok (.return_, 1) := by decide +kernel
theorem dX5_searchFrom_38 : decode cX5_searchFrom 38 = .ok (.iload_n 3, 1) := by decide +kernel
theorem dX5_searchFrom_39 : decode cX5_searchFrom 39 = .ok (.iconst 1, 1) := by decide +kernel
theorem dX5_searchFrom_40 : decode cX5_searchFrom 40 = .ok (.iload_n 1, 1) := by decide +kernel
theorem dX5_searchFrom_41 : decode cX5_searchFrom 41 = .ok (.ishl, 1) := by decide +kernel
theorem dX5_searchFrom_42 : decode cX5_searchFrom 42 = .ok (.iconst (-1), 1) := by decide +kernel
theorem dX5_searchFrom_43 : decode cX5_searchFrom 43 = .ok (.ixor, 1) := by decide +kernel
theorem dX5_searchFrom_44 : decode cX5_searchFrom 44 = .ok (.iand, 1) := by decide +kernel
theorem dX5_searchFrom_45 : decode cX5_searchFrom 45 = .ok (.istore 5, 2) := by decide +kernel
theorem dX5_searchFrom_47 : decode cX5_searchFrom 47 = .ok (.iload_n 3, 1) := by decide +kernel
theorem dX5_searchFrom_48 : decode cX5_searchFrom 48 = .ok (.iload_n 1, 1) := by decide +kernel
theorem dX5_searchFrom_49 : decode cX5_searchFrom 49 = .ok (.invokestatic 98, 3) := by decide +kernel
theorem dX5_searchFrom_52 : decode cX5_searchFrom 52 = .ok (.ifCond .eq 48, 3) := by decide +kernel
theorem dX5_searchFrom_55 : decode cX5_searchFrom 55 = .ok (.aload_n 0, 1) := by decide +kernel
theorem dX5_searchFrom_56 : decode cX5_searchFrom 56 = .ok (.iload_n 1, 1) := by decide +kernel
theorem dX5_searchFrom_57 : decode cX5_searchFrom 57 = .ok (.iconst 1, 1) := by decide +kernel
theorem dX5_searchFrom_58 : decode cX5_searchFrom 58 = .ok (.iadd, 1) := by decide +kernel
theorem dX5_searchFrom_59 : decode cX5_searchFrom 59 = .ok (.iload_n 2, 1) := by decide +kernel
theorem dX5_searchFrom_60 : decode cX5_searchFrom 60 = .ok (.iconst 1, 1) := by decide +kernel
theorem dX5_searchFrom_61 : decode cX5_searchFrom 61 = .ok (.iload_n 1, 1) := by decide +kernel
theorem dX5_searchFrom_62 : decode cX5_searchFrom 62 = .ok (.ishl, 1) := by decide +kernel
theorem dX5_searchFrom_63 : decode cX5_searchFrom 63 = .ok (.ior, 1) := by decide +kernel
theorem dX5_searchFrom_64 : decode cX5_searchFrom 64 = .ok (.iload 5, 2) := by decide +kernel
theorem dX5_searchFrom_66 : decode cX5_searchFrom 66 = .ok (.aload_n 0, 1) := by decide +kernel
theorem dX5_searchFrom_67 : decode cX5_searchFrom 67 = .ok (.getfield 291, 3) := by decide +kernel
theorem dX5_searchFrom_70 : decode cX5_searchFrom 70 = .ok (.iload_n 1, 1) := by decide +kernel
theorem dX5_searchFrom_71 : decode cX5_searchFrom 71 = .ok (.iaload, 1) := by decide +kernel
theorem dX5_searchFrom_72 : decode cX5_searchFrom 72 = .ok (.iconst (-1), 1) := by decide +kernel
theorem dX5_searchFrom_73 : decode cX5_searchFrom 73 = .ok (.ixor, 1) := by decide +kernel
theorem dX5_searchFrom_74 : decode cX5_searchFrom 74 = .ok (.iand, 1) := by decide +kernel
theorem dX5_searchFrom_75 : decode cX5_searchFrom 75 = .ok (.iload 4, 2) := by decide +kernel
theorem dX5_searchFrom_77 : decode cX5_searchFrom 77 = .ok (.aload_n 0, 1) := by decide +kernel
theorem dX5_searchFrom_78 : decode cX5_searchFrom 78 = .ok (.getfield 287, 3) := by decide +kernel
theorem dX5_searchFrom_81 : decode cX5_searchFrom 81 = .ok (.iload_n 1, 1) := by decide +kernel
theorem dX5_searchFrom_82 : decode cX5_searchFrom 82 = .ok (.iaload, 1) := by decide +kernel
theorem dX5_searchFrom_83 : decode cX5_searchFrom 83 = .ok (.iadd, 1) := by decide +kernel
theorem dX5_searchFrom_84 : decode cX5_searchFrom 84 = .ok (.invokestatic 180, 3) := by decide +kernel
theorem dX5_searchFrom_87 : decode cX5_searchFrom 87 = .ok (.iload 5, 2) := by decide +kernel
theorem dX5_searchFrom_89 : decode cX5_searchFrom 89 = .ok (.aload_n 0, 1) := by decide +kernel
theorem dX5_searchFrom_90 : decode cX5_searchFrom 90 = .ok (.getfield 291, 3) := by decide +kernel
theorem dX5_searchFrom_93 : decode cX5_searchFrom 93 = .ok (.iload_n 1, 1) := by decide +kernel
theorem dX5_searchFrom_94 : decode cX5_searchFrom 94 = .ok (.iaload, 1) := by decide +kernel
theorem dX5_searchFrom_95 : decode cX5_searchFrom 95 = .ok (.iand, 1) := by decide +kernel
theorem dX5_searchFrom_96 : decode cX5_searchFrom 96 = .ok (.ifCond .ne 4, 3) := by decide +kernel
theorem dX5_searchFrom_99 : decode cX5_searchFrom 99 = .ok (.return_, 1) := by decide +kernel
theorem dX5_searchFrom_100 : decode cX5_searchFrom 100 = .ok (.aload_n 0, 1) := by decide +kernel
theorem dX5_searchFrom_101 : decode cX5_searchFrom 101 = .ok (.iload_n 1, 1) := by decide +kernel
theorem dX5_searchFrom_102 : decode cX5_searchFrom 102 = .ok (.iconst 1, 1) := by decide +kernel
theorem dX5_searchFrom_103 : decode cX5_searchFrom 103 = .ok (.iadd, 1) := by decide +kernel
theorem dX5_searchFrom_104 : decode cX5_searchFrom 104 = .ok (.iload_n 2, 1) := by decide +kernel
theorem dX5_searchFrom_105 : decode cX5_searchFrom 105 = .ok (.iload 5, 2) := by decide +kernel
theorem dX5_searchFrom_107 : decode cX5_searchFrom 107 = .ok (.iload 4, 2) := by decide +kernel
theorem dX5_searchFrom_109 : decode cX5_searchFrom 109 = .ok (.invokestatic 180, 3) := by decide +kernel
theorem dX5_searchFrom_112 : decode cX5_searchFrom 112 = .ok (.return_, 1) := by decide +kernel
set_option maxRecDepth 20000 in
theorem ggX5_gatherEverywhere_Jx4a65c_size_8abf5 : GoodIn wsX5_gatherEverywhere wsJx4a65c_size_8abf5 := goodIn_r _ [7, 8, 46, 47, 48] (by decide +kernel) (by decide +kernel)
set_option maxRecDepth 20000 in
theorem gX5_gatherEverywhere_Jx4a65c_size_8abf5 : GoodIn wsX5_gatherEverywhere (wsV RX5 50 RJx4a65c yJx4a65c_size_8abf5 wsJx4a65c_size_8abf5) := goodIn_app (goodIn_of _ (by decide +kernel)) ggX5_gatherEverywhere_Jx4a65c_size_8abf5
set_option maxRecDepth 20000 in
theorem ggX5_gatherEverywhere_Jx4a65c_get_915e3 : GoodIn wsX5_gatherEverywhere wsJx4a65c_get_915e3 := goodIn_r _ [12, 8, 13, 14, 15, 16, 17, 18, 19, 20, 21, 22, 23, 6, 24, 25, 46, 47, 48] (by decide +kernel) (by decide +kernel)
set_option maxRecDepth 20000 in
theorem gX5_gatherEverywhere_Jx4a65c_get_915e3 : GoodIn wsX5_gatherEverywhere (wsV RX5 191 RJx4a65c yJx4a65c_get_915e3 wsJx4a65c_get_915e3) := goodIn_app (goodIn_of _ (by decide +kernel)) ggX5_gatherEverywhere_Jx4a65c_get_915e3
set_option maxRecDepth 20000 in
theorem ggX5_gatherEverywhere_X3_gather : GoodIn wsX5_gatherEverywhere wsX3_gather := goodIn_r _ [30, 31, 32, 33, 34, 35, 36, 37, 38, 49, 50, 51, 52, 53, 54, 55, 56] (by decide +kernel) (by decide +kernel)
set_option maxRecDepth 20000 in
theorem gX5_gatherEverywhere_X3_gather : GoodIn wsX5_gatherEverywhere (wsV RX5 304 RX3 yX3_gather wsX3_gather) := goodIn_app (goodIn_of _ (by decide +kernel)) ggX5_gatherEverywhere_X3_gather
theorem dX5_gatherEverywhere_0 : decode cX5_gatherEverywhere 0 = .ok (.iconst 0, 1) := by decide +kernel
theorem dX5_gatherEverywhere_1 : decode cX5_gatherEverywhere 1 = .ok (.istore_n 1, 1) := by decide +kernel
theorem dX5_gatherEverywhere_2 : decode cX5_gatherEverywhere 2 = .ok (.iload_n 1, 1) := by decide +kernel
theorem dX5_gatherEverywhere_3 : decode cX5_gatherEverywhere 3 = .ok (.aload_n 0, 1) := by decide +kernel
theorem dX5_gatherEverywhere_4 : decode cX5_gatherEverywhere 4 = .ok (.getfield 16, 3) := by decide +kernel
theorem dX5_gatherEverywhere_7 : decode cX5_gatherEverywhere 7 = .ok (.invokevirtual 50, 3) := by decide +kernel
theorem dX5_gatherEverywhere_10 : decode cX5_gatherEverywhere 10 = .ok (.if_icmp .ge 23, 3) := by decide +kernel
theorem dX5_gatherEverywhere_13 : decode cX5_gatherEverywhere 13 = .ok (.aload_n 0, 1) := by decide +kernel
theorem dX5_gatherEverywhere_14 : decode cX5_gatherEverywhere 14 = .ok (.getfield 16, 3) := by decide +kernel
theorem dX5_gatherEverywhere_17 : decode cX5_gatherEverywhere 17 = .ok (.iload_n 1, 1) := by decide +kernel
theorem dX5_gatherEverywhere_18 : decode cX5_gatherEverywhere 18 = .ok (.invokevirtual 191, 3) := by decide +kernel
theorem dX5_gatherEverywhere_21 : decode cX5_gatherEverywhere 21 = .ok (.checkcast 73, 3) := by decide +kernel
theorem dX5_gatherEverywhere_24 : decode cX5_gatherEverywhere 24 = .ok (.invokevirtual 304, 3) := by decide +kernel
theorem dX5_gatherEverywhere_27 : decode cX5_gatherEverywhere 27 = .ok (.iinc 1 1, 3) := by decide +kernel
theorem dX5_gatherEverywhere_30 : decode cX5_gatherEverywhere 30 = .ok (.goto (-28), 3) := by decide +kernel
theorem dX5_gatherEverywhere_33 : decode cX5_gatherEverywhere 33 = .ok (.return_, 1) := by decide +kernel
set_option maxRecDepth 20000 in
theorem ggX5_bringDownEverywhere_Jx4a65c_size_8abf5 : GoodIn wsX5_bringDownEverywhere wsJx4a65c_size_8abf5 := goodIn_r _ [9, 10, 94, 95, 96] (by decide +kernel) (by decide +kernel)
set_option maxRecDepth 20000 in
theorem gX5_bringDownEverywhere_Jx4a65c_size_8abf5 : GoodIn wsX5_bringDownEverywhere (wsV RX5 50 RJx4a65c yJx4a65c_size_8abf5 wsJx4a65c_size_8abf5) := goodIn_app (goodIn_of _ (by decide +kernel)) ggX5_bringDownEverywhere_Jx4a65c_size_8abf5
set_option maxRecDepth 20000 in
theorem ggX5_bringDownEverywhere_Jx4a65c_get_915e3 : GoodIn wsX5_bringDownEverywhere wsJx4a65c_get_915e3 := goodIn_r _ [14, 10, 15, 16, 17, 18, 19, 20, 21, 22, 23, 24, 25, 8, 26, 27, 94, 95, 96] (by decide +kernel) (by decide +kernel)
set_option maxRecDepth 20000 in
theorem gX5_bringDownEverywhere_Jx4a65c_get_915e3 : GoodIn wsX5_bringDownEverywhere (wsV RX5 191 RJx4a65c yJx4a65c_get_915e3 wsJx4a65c_get_915e3) := goodIn_app (goodIn_of _ (by decide +kernel)) ggX5_bringDownEverywhere_Jx4a65c_get_915e3
set_option maxRecDepth 20000 in
theorem ggX5_bringDownEverywhere_X5_isHeard : GoodIn wsX5_bringDownEverywhere wsX5_isHeard := goodIn_r _ [32, 33, 34, 4, 35, 36, 37, 38, 31, 39, 1, 2, 40, 41, 42, 43, 44, 5, 6, 7, 8, 9, 10, 11, 12, 13, 14, 15, 16, 17, 18, 19, 20, 21, 22, 23, 24, 25, 26, 27, 45, 46, 47, 48, 49, 50, 51, 87, 88, 89, 90, 91, 92, 93, 80, 81, 82, 83, 84, 85, 86, 94, 95, 96] (by decide +kernel) (by decide +kernel)
set_option maxRecDepth 20000 in
theorem gX5_bringDownEverywhere_X5_isHeard : GoodIn wsX5_bringDownEverywhere (wsV RX5 307 RX5 yX5_isHeard wsX5_isHeard) := goodIn_app (goodIn_of _ (by decide +kernel)) ggX5_bringDownEverywhere_X5_isHeard
set_option maxRecDepth 20000 in
theorem ggX5_bringDownEverywhere_X5_isOut : GoodIn wsX5_bringDownEverywhere wsX5_isOut := goodIn_r _ [55, 56, 57, 58, 5, 6, 7, 8, 9, 10, 11, 12, 13, 14, 15, 16, 17, 18, 19, 20, 21, 22, 23, 24, 25, 26, 27, 59, 60, 61, 62, 63, 64, 65, 80, 81, 82, 83, 84, 85, 86, 97, 98, 99, 94, 95, 96] (by decide +kernel) (by decide +kernel)
set_option maxRecDepth 20000 in
theorem gX5_bringDownEverywhere_X5_isOut : GoodIn wsX5_bringDownEverywhere (wsV RX5 238 RX5 yX5_isOut wsX5_isOut) := goodIn_app (goodIn_of _ (by decide +kernel)) ggX5_bringDownEverywhere_X5_isOut
set_option maxRecDepth 20000 in
theorem ggX5_bringDownEverywhere_X2_bringDown : GoodIn wsX5_bringDownEverywhere wsX2_bringDown := goodIn_r _ [69, 70, 71, 72, 73, 74, 75, 43, 76, 77, 78, 79, 87, 88, 89, 90, 91, 92, 93, 100, 101, 102, 103, 104, 105, 106, 107, 108, 109, 110, 111, 112] (by decide +kernel) (by decide +kernel)
set_option maxRecDepth 20000 in
theorem gX5_bringDownEverywhere_X2_bringDown : GoodIn wsX5_bringDownEverywhere (wsV RX5 310 RX2 yX2_bringDown wsX2_bringDown) := goodIn_app (goodIn_of _ (by decide +kernel)) ggX5_bringDownEverywhere_X2_bringDown
theorem dX5_bringDownEverywhere_0 : decode cX5_bringDownEverywhere 0 = .ok (.iconst 0, 1) := by decide +kernel
theorem dX5_bringDownEverywhere_1 : decode cX5_bringDownEverywhere 1 = .ok (.istore_n 1, 1) := by decide +kernel
theorem dX5_bringDownEverywhere_2 : decode cX5_bringDownEverywhere 2 = .ok (.iconst 0, 1) := by decide +kernel
theorem dX5_bringDownEverywhere_3 : decode cX5_bringDownEverywhere 3 = .ok (.istore_n 2, 1) := by decide +kernel
theorem dX5_bringDownEverywhere_4 : decode cX5_bringDownEverywhere 4 = .ok (.iload_n 2, 1) := by decide +kernel
theorem dX5_bringDownEverywhere_5 : decode cX5_bringDownEverywhere 5 = .ok (.aload_n 0, 1) := by decide +kernel
theorem dX5_bringDownEverywhere_6 : decode cX5_bringDownEverywhere 6 = .ok (.getfield 19, 3) := by decide +kernel
theorem dX5_bringDownEverywhere_9 : decode cX5_bringDownEverywhere 9 = .ok (.invokevirtual 50, 3) := by decide +kernel
theorem dX5_bringDownEverywhere_12 : decode cX5_bringDownEverywhere 12 = .ok (.if_icmp .ge 57, 3) := by decide +kernel
theorem dX5_bringDownEverywhere_15 : decode cX5_bringDownEverywhere 15 = .ok (.aload_n 0, 1) := by decide +kernel
theorem dX5_bringDownEverywhere_16 : decode cX5_bringDownEverywhere 16 = .ok (.getfield 19, 3) := by decide +kernel
theorem dX5_bringDownEverywhere_19 : decode cX5_bringDownEverywhere 19 = .ok (.iload_n 2, 1) := by decide +kernel
theorem dX5_bringDownEverywhere_20 : decode cX5_bringDownEverywhere 20 = .ok (.invokevirtual 191, 3) := by decide +kernel
theorem dX5_bringDownEverywhere_23 : decode cX5_bringDownEverywhere 23 = .ok (.checkcast 106, 3) := by decide +kernel
theorem dX5_bringDownEverywhere_26 : decode cX5_bringDownEverywhere 26 = .ok (.astore_n 3, 1) := by decide +kernel
theorem dX5_bringDownEverywhere_27 : decode cX5_bringDownEverywhere 27 = .ok (.aload_n 0, 1) := by decide +kernel
theorem dX5_bringDownEverywhere_28 : decode cX5_bringDownEverywhere 28 = .ok (.aload_n 3, 1) := by decide +kernel
theorem dX5_bringDownEverywhere_29 : decode cX5_bringDownEverywhere 29 = .ok (.invokevirtual 307, 3) := by decide +kernel
theorem dX5_bringDownEverywhere_32 : decode cX5_bringDownEverywhere 32 = .ok (.ifCond .eq 31, 3) := by decide +kernel
theorem dX5_bringDownEverywhere_35 : decode cX5_bringDownEverywhere 35 = .ok (.aload_n 0, 1) := by decide +kernel
theorem dX5_bringDownEverywhere_36 : decode cX5_bringDownEverywhere 36 = .ok (.aload_n 3, 1) := by decide +kernel
theorem dX5_bringDownEverywhere_37 : decode cX5_bringDownEverywhere 37 = .ok (.getfield 140, 3) := by decide +kernel
theorem dX5_bringDownEverywhere_40 : decode cX5_bringDownEverywhere 40 = .ok (.aload_n 0, 1) := by decide +kernel
theorem dX5_bringDownEverywhere_41 : decode cX5_bringDownEverywhere 41 = .ok (.getfield 32, 3) := by decide +kernel
theorem dX5_bringDownEverywhere_44 : decode cX5_bringDownEverywhere 44 = .ok (.aload_n 0, 1) := by decide +kernel
theorem dX5_bringDownEverywhere_45 : decode cX5_bringDownEverywhere 45 = .ok (.getfield 32, 3) := by decide +kernel
theorem dX5_bringDownEverywhere_48 : decode cX5_bringDownEverywhere 48 = .ok (.iconst 1, 1) := by decide +kernel
theorem dX5_bringDownEverywhere_49 : decode cX5_bringDownEverywhere 49 = .ok (.iadd, 1) := by decide +kernel
theorem dX5_bringDownEverywhere_50 : decode cX5_bringDownEverywhere 50 = .ok (.invokevirtual 238, 3) := by decide +kernel
theorem dX5_bringDownEverywhere_53 : decode cX5_bringDownEverywhere 53 = .ok (.ifCond .ne 10, 3) := by decide +kernel
theorem dX5_bringDownEverywhere_56 : decode cX5_bringDownEverywhere 56 = .ok (.iload_n 1, 1) := by decide +kernel
theorem dX5_bringDownEverywhere_57 : decode cX5_bringDownEverywhere 57 = .ok (.aload_n 3, 1) := by decide +kernel
theorem dX5_bringDownEverywhere_58 : decode cX5_bringDownEverywhere 58 = .ok (.invokevirtual 310, 3) := by decide +kernel
theorem dX5_bringDownEverywhere_61 : decode cX5_bringDownEverywhere 61 = .ok (.iadd, 1) := by decide +kernel
theorem dX5_bringDownEverywhere_62 : decode cX5_bringDownEverywhere 62 = .ok (.istore_n 1, 1) := by decide +kernel
theorem dX5_bringDownEverywhere_63 : decode cX5_bringDownEverywhere 63 = .ok (.iinc 2 1, 3) := by decide +kernel
theorem dX5_bringDownEverywhere_66 : decode cX5_bringDownEverywhere 66 = .ok (.goto (-62), 3) := by decide +kernel
theorem dX5_bringDownEverywhere_69 : decode cX5_bringDownEverywhere 69 = .ok (.iload_n 1, 1) := by decide +kernel
theorem dX5_bringDownEverywhere_70 : decode cX5_bringDownEverywhere 70 = .ok (.ireturn, 1) := by decide +kernel
set_option maxRecDepth 20000 in
theorem ggX5_isOut_Jx4a65c_size_8abf5 : GoodIn wsX5_isOut wsJx4a65c_size_8abf5 := goodIn_r _ [8, 9, 44, 45, 46] (by decide +kernel) (by decide +kernel)
set_option maxRecDepth 20000 in
theorem gX5_isOut_Jx4a65c_size_8abf5 : GoodIn wsX5_isOut (wsV RX5 50 RJx4a65c yJx4a65c_size_8abf5 wsJx4a65c_size_8abf5) := goodIn_app (goodIn_of _ (by decide +kernel)) ggX5_isOut_Jx4a65c_size_8abf5
set_option maxRecDepth 20000 in
theorem ggX5_isOut_Jx4a65c_get_915e3 : GoodIn wsX5_isOut wsJx4a65c_get_915e3 := goodIn_r _ [13, 9, 14, 15, 16, 17, 18, 19, 20, 21, 22, 23, 24, 7, 25, 26, 44, 45, 46] (by decide +kernel) (by decide +kernel)
set_option maxRecDepth 20000 in
theorem gX5_isOut_Jx4a65c_get_915e3 : GoodIn wsX5_isOut (wsV RX5 191 RJx4a65c yJx4a65c_get_915e3 wsJx4a65c_get_915e3) := goodIn_app (goodIn_of _ (by decide +kernel)) ggX5_isOut_Jx4a65c_get_915e3
set_option maxRecDepth 20000 in
theorem ggX5_isOut_X1_meets : GoodIn wsX5_isOut wsX1_meets := goodIn_r _ [31, 32, 33, 41, 42, 43] (by decide +kernel) (by decide +kernel)
set_option maxRecDepth 20000 in
theorem gX5_isOut_X1_meets : GoodIn wsX5_isOut (wsV RX5 314 RX1 yX1_meets wsX1_meets) := goodIn_app (goodIn_of _ (by decide +kernel)) ggX5_isOut_X1_meets
theorem dX5_isOut_0 : decode cX5_isOut 0 = .ok (.iconst 0, 1) := by decide +kernel
theorem dX5_isOut_1 : decode cX5_isOut 1 = .ok (.istore 4, 2) := by decide +kernel
theorem dX5_isOut_3 : decode cX5_isOut 3 = .ok (.iload 4, 2) := by decide +kernel
theorem dX5_isOut_5 : decode cX5_isOut 5 = .ok (.aload_n 0, 1) := by decide +kernel
theorem dX5_isOut_6 : decode cX5_isOut 6 = .ok (.getfield 22, 3) := by decide +kernel
theorem dX5_isOut_9 : decode cX5_isOut 9 = .ok (.invokevirtual 50, 3) := by decide +kernel
theorem dX5_isOut_12 : decode cX5_isOut 12 = .ok (.if_icmp .ge 44, 3) := by decide +kernel
theorem dX5_isOut_15 : decode cX5_isOut 15 = .ok (.aload_n 0, 1) := by decide +kernel
theorem dX5_isOut_16 : decode cX5_isOut 16 = .ok (.getfield 22, 3) := by decide +kernel
theorem dX5_isOut_19 : decode cX5_isOut 19 = .ok (.iload 4, 2) := by decide +kernel
theorem dX5_isOut_21 : decode cX5_isOut 21 = .ok (.invokevirtual 191, 3) := by decide +kernel
theorem dX5_isOut_24 : decode cX5_isOut 24 = .ok (.checkcast 113, 3) := by decide +kernel
theorem dX5_isOut_27 : decode cX5_isOut 27 = .ok (.astore 5, 2) := by decide +kernel
theorem dX5_isOut_29 : decode cX5_isOut 29 = .ok (.aload 5, 2) := by decide +kernel
theorem dX5_isOut_31 : decode cX5_isOut 31 = .ok (.getfield 313, 3) := by decide +kernel
theorem dX5_isOut_34 : decode cX5_isOut 34 = .ok (.aload_n 1, 1) := by decide +kernel
theorem dX5_isOut_35 : decode cX5_isOut 35 = .ok (.if_acmp .ne 15, 3) := by decide +kernel
theorem dX5_isOut_38 : decode cX5_isOut 38 = .ok (.aload 5, 2) := by decide +kernel
theorem dX5_isOut_40 : decode cX5_isOut 40 = .ok (.iload_n 2, 1) := by decide +kernel
theorem dX5_isOut_41 : decode cX5_isOut 41 = .ok (.iload_n 3, 1) := by decide +kernel
theorem dX5_isOut_42 : decode cX5_isOut 42 = .ok (.invokevirtual 314, 3) := by decide +kernel
theorem dX5_isOut_45 : decode cX5_isOut 45 = .ok (.ifCond .eq 5, 3) := by decide +kernel
theorem dX5_isOut_48 : decode cX5_isOut 48 = .ok (.iconst 1, 1) := by decide +kernel
theorem dX5_isOut_49 : decode cX5_isOut 49 = .ok (.ireturn, 1) := by decide +kernel
theorem dX5_isOut_50 : decode cX5_isOut 50 = .ok (.iinc 4 1, 3) := by decide +kernel
theorem dX5_isOut_53 : decode cX5_isOut 53 = .ok (.goto (-50), 3) := by decide +kernel
theorem dX5_isOut_56 : decode cX5_isOut 56 = .ok (.iconst 0, 1) := by decide +kernel
theorem dX5_isOut_57 : decode cX5_isOut 57 = .ok (.ireturn, 1) := by decide +kernel
set_option maxRecDepth 20000 in
theorem ggX5_countTakenIn_Jx4a65c_size_8abf5 : GoodIn wsX5_countTakenIn wsJx4a65c_size_8abf5 := goodIn_r _ [12, 13, 55, 56, 57] (by decide +kernel) (by decide +kernel)
set_option maxRecDepth 20000 in
theorem gX5_countTakenIn_Jx4a65c_size_8abf5 : GoodIn wsX5_countTakenIn (wsV RX5 50 RJx4a65c yJx4a65c_size_8abf5 wsJx4a65c_size_8abf5) := goodIn_app (goodIn_of _ (by decide +kernel)) ggX5_countTakenIn_Jx4a65c_size_8abf5
set_option maxRecDepth 20000 in
theorem ggX5_countTakenIn_Jx4a65c_get_915e3 : GoodIn wsX5_countTakenIn wsJx4a65c_get_915e3 := goodIn_r _ [17, 13, 18, 19, 20, 21, 22, 23, 24, 25, 26, 27, 28, 11, 29, 30, 55, 56, 57] (by decide +kernel) (by decide +kernel)
set_option maxRecDepth 20000 in
theorem gX5_countTakenIn_Jx4a65c_get_915e3 : GoodIn wsX5_countTakenIn (wsV RX5 191 RJx4a65c yJx4a65c_get_915e3 wsJx4a65c_get_915e3) := goodIn_app (goodIn_of _ (by decide +kernel)) ggX5_countTakenIn_Jx4a65c_get_915e3
set_option maxRecDepth 20000 in
theorem ggX5_countTakenIn_X1_meets : GoodIn wsX5_countTakenIn wsX1_meets := goodIn_r _ [35, 36, 37, 52, 53, 54] (by decide +kernel) (by decide +kernel)
set_option maxRecDepth 20000 in
theorem gX5_countTakenIn_X1_meets : GoodIn wsX5_countTakenIn (wsV RX5 314 RX1 yX1_meets wsX1_meets) := goodIn_app (goodIn_of _ (by decide +kernel)) ggX5_countTakenIn_X1_meets
theorem dX5_countTakenIn_0 : decode cX5_countTakenIn 0 = .ok (.iconst 0, 1) := by decide +kernel
theorem dX5_countTakenIn_1 : decode cX5_countTakenIn 1 = .ok (.istore_n 2, 1) := by decide +kernel
theorem dX5_countTakenIn_2 : decode cX5_countTakenIn 2 = .ok (.iconst 0, 1) := by decide +kernel
theorem dX5_countTakenIn_3 : decode cX5_countTakenIn 3 = .ok (.istore_n 3, 1) := by decide +kernel
theorem dX5_countTakenIn_4 : decode cX5_countTakenIn 4 = .ok (.iload_n 3, 1) := by decide +kernel
theorem dX5_countTakenIn_5 : decode cX5_countTakenIn 5 = .ok (.aload_n 0, 1) := by decide +kernel
theorem dX5_countTakenIn_6 : decode cX5_countTakenIn 6 = .ok (.getfield 19, 3) := by decide +kernel
theorem dX5_countTakenIn_9 : decode cX5_countTakenIn 9 = .ok (.invokevirtual 50, 3) := by decide +kernel
theorem dX5_countTakenIn_12 : decode cX5_countTakenIn 12 = .ok (.if_icmp .ge 62, 3) := by decide +kernel
theorem dX5_countTakenIn_15 : decode cX5_countTakenIn 15 = .ok (.aload_n 0, 1) := by decide +kernel
theorem dX5_countTakenIn_16 : decode cX5_countTakenIn 16 = .ok (.getfield 19, 3) := by decide +kernel
theorem dX5_countTakenIn_19 : decode cX5_countTakenIn 19 = .ok (.iload_n 3, 1) := by decide +kernel
theorem dX5_countTakenIn_20 : decode cX5_countTakenIn 20 = .ok (.invokevirtual 191, 3) := by decide +kernel
theorem dX5_countTakenIn_23 : decode cX5_countTakenIn 23 = .ok (.checkcast 106, 3) := by decide +kernel
theorem dX5_countTakenIn_26 : decode cX5_countTakenIn 26 = .ok (.astore 4, 2) := by decide +kernel
theorem dX5_countTakenIn_28 : decode cX5_countTakenIn 28 = .ok (.aload 4, 2) := by decide +kernel
theorem dX5_countTakenIn_30 : decode cX5_countTakenIn 30 = .ok (.getfield 140, 3) := by decide +kernel
theorem dX5_countTakenIn_33 : decode cX5_countTakenIn 33 = .ok (.aload_n 1, 1) := by decide +kernel
theorem dX5_countTakenIn_34 : decode cX5_countTakenIn 34 = .ok (.getfield 313, 3) := by decide +kernel
theorem dX5_countTakenIn_37 : decode cX5_countTakenIn 37 = .ok (.if_acmp .ne 31, 3) := by decide +kernel
theorem dX5_countTakenIn_40 : decode cX5_countTakenIn 40 = .ok (.aload 4, 2) := by decide +kernel
theorem dX5_countTakenIn_42 : decode cX5_countTakenIn 42 = .ok (.getfield 154, 3) := by decide +kernel
theorem dX5_countTakenIn_45 : decode cX5_countTakenIn 45 = .ok (.ifCond .eq 23, 3) := by decide +kernel
theorem dX5_countTakenIn_48 : decode cX5_countTakenIn 48 = .ok (.aload_n 1, 1) := by decide +kernel
theorem dX5_countTakenIn_49 : decode cX5_countTakenIn 49 = .ok (.aload 4, 2) := by decide +kernel
theorem dX5_countTakenIn_51 : decode cX5_countTakenIn 51 = .ok (.getfield 145, 3) := by decide +kernel
theorem dX5_countTakenIn_54 : decode cX5_countTakenIn 54 = .ok (.aload 4, 2) := by decide +kernel
theorem dX5_countTakenIn_56 : decode cX5_countTakenIn 56 = .ok (.getfield 148, 3) := by decide +kernel
theorem dX5_countTakenIn_59 : decode cX5_countTakenIn 59 = .ok (.invokevirtual 314, 3) := by decide +kernel
theorem dX5_countTakenIn_62 : decode cX5_countTakenIn 62 = .ok (.ifCond .eq 6, 3) := by decide +kernel
theorem dX5_countTakenIn_65 : decode cX5_countTakenIn 65 = .ok (.iinc 2 1, 3) := by decide +kernel
theorem dX5_countTakenIn_68 : decode cX5_countTakenIn 68 = .ok (.iinc 3 1, 3) := by decide +kernel
theorem dX5_countTakenIn_71 : decode cX5_countTakenIn 71 = .ok (.goto (-67), 3) := by decide +kernel
theorem dX5_countTakenIn_74 : decode cX5_countTakenIn 74 = .ok (.iload_n 2, 1) := by decide +kernel
theorem dX5_countTakenIn_75 : decode cX5_countTakenIn 75 = .ok (.ireturn, 1) := by decide +kernel
theorem dX5_minuteOfFull_0 : decode cX5_minuteOfFull 0 = .ok (.aload_n 1, 1) := by decide +kernel
theorem dX5_minuteOfFull_1 : decode cX5_minuteOfFull 1 = .ok (.getfield 317, 3) := by decide +kernel
theorem dX5_minuteOfFull_4 : decode cX5_minuteOfFull 4 = .ok (.aload_n 1, 1) := by decide +kernel
theorem dX5_minuteOfFull_5 : decode cX5_minuteOfFull 5 = .ok (.getfield 216, 3) := by decide +kernel
theorem dX5_minuteOfFull_8 : decode cX5_minuteOfFull 8 = .ok (.isub, 1) := by decide +kernel
theorem dX5_minuteOfFull_9 : decode cX5_minuteOfFull 9 = .ok (.istore_n 2, 1) := by decide +kernel
theorem dX5_minuteOfFull_10 : decode cX5_minuteOfFull 10 = .ok (.iload_n 2, 1) := by decide +kernel
theorem dX5_minuteOfFull_11 : decode cX5_minuteOfFull 11 = .ok (.ifCond .le 10, 3) := by decide +kernel
theorem dX5_minuteOfFull_14 : decode cX5_minuteOfFull 14 = .ok (.aload_n 1, 1) := by decide +kernel
theorem dX5_minuteOfFull_15 : decode cX5_minuteOfFull 15 = .ok (.getfield 320, 3) := by decide +kernel
theorem dX5_minuteOfFull_18 : decode cX5_minuteOfFull 18 = .ok (.ifCond .gt 5, 3) := by decide +kernel
theorem dX5_minuteOfFull_21 : decode cX5_minuteOfFull 21 = .ok (.iconst (-1), 1) := by decide +kernel
theorem dX5_minuteOfFull_22 : decode cX5_minuteOfFull 22 = .ok (.ireturn, 1) := by decide +kernel
theorem dX5_minuteOfFull_23 : decode cX5_minuteOfFull 23 = .ok (.aload_n 0, 1) := by decide +kernel
theorem dX5_minuteOfFull_24 : decode cX5_minuteOfFull 24 = .ok (.getfield 32, 3) := by decide +kernel
theorem dX5_minuteOfFull_27 : decode cX5_minuteOfFull 27 = .ok (.iload_n 2, 1) := by decide +kernel
theorem dX5_minuteOfFull_28 : decode cX5_minuteOfFull 28 = .ok (.iconst 1, 1) := by decide +kernel
theorem dX5_minuteOfFull_29 : decode cX5_minuteOfFull 29 = .ok (.isub, 1) := by decide +kernel
theorem dX5_minuteOfFull_30 : decode cX5_minuteOfFull 30 = .ok (.aload_n 1, 1) := by decide +kernel
theorem dX5_minuteOfFull_31 : decode cX5_minuteOfFull 31 = .ok (.getfield 320, 3) := by decide +kernel
theorem dX5_minuteOfFull_34 : decode cX5_minuteOfFull 34 = .ok (.idiv, 1) := by decide +kernel
theorem dX5_minuteOfFull_35 : decode cX5_minuteOfFull 35 = .ok (.iadd, 1) := by decide +kernel
theorem dX5_minuteOfFull_36 : decode cX5_minuteOfFull 36 = .ok (.ireturn, 1) := by decide +kernel
set_option maxRecDepth 20000 in
theorem ggX5_heardOver_Jx4a65c_size_8abf5 : GoodIn wsX5_heardOver wsJx4a65c_size_8abf5 := goodIn_r _ [8, 9, 66, 67, 68] (by decide +kernel) (by decide +kernel)
set_option maxRecDepth 20000 in
theorem gX5_heardOver_Jx4a65c_size_8abf5 : GoodIn wsX5_heardOver (wsV RX5 50 RJx4a65c yJx4a65c_size_8abf5 wsJx4a65c_size_8abf5) := goodIn_app (goodIn_of _ (by decide +kernel)) ggX5_heardOver_Jx4a65c_size_8abf5
set_option maxRecDepth 20000 in
theorem ggX5_heardOver_Jx4a65c_get_915e3 : GoodIn wsX5_heardOver wsJx4a65c_get_915e3 := goodIn_r _ [13, 9, 14, 15, 16, 17, 18, 19, 20, 21, 22, 23, 24, 7, 25, 26, 66, 67, 68] (by decide +kernel) (by decide +kernel)
set_option maxRecDepth 20000 in
theorem gX5_heardOver_Jx4a65c_get_915e3 : GoodIn wsX5_heardOver (wsV RX5 191 RJx4a65c yJx4a65c_get_915e3 wsJx4a65c_get_915e3) := goodIn_app (goodIn_of _ (by decide +kernel)) ggX5_heardOver_Jx4a65c_get_915e3
set_option maxRecDepth 20000 in
theorem ggX5_heardOver_X5_isHeard : GoodIn wsX5_heardOver wsX5_isHeard := goodIn_r _ [31, 32, 33, 34, 35, 36, 37, 38, 30, 39, 1, 2, 40, 41, 42, 43, 44, 4, 5, 6, 7, 8, 9, 10, 11, 12, 13, 14, 15, 16, 17, 18, 19, 20, 21, 22, 23, 24, 25, 26, 45, 46, 47, 48, 49, 50, 51, 59, 60, 61, 62, 63, 64, 65, 52, 53, 54, 55, 56, 57, 58, 66, 67, 68] (by decide +kernel) (by decide +kernel)
set_option maxRecDepth 20000 in
theorem gX5_heardOver_X5_isHeard : GoodIn wsX5_heardOver (wsV RX5 307 RX5 yX5_isHeard wsX5_isHeard) := goodIn_app (goodIn_of _ (by decide +kernel)) ggX5_heardOver_X5_isHeard
theorem dX5_heardOver_0 : decode cX5_heardOver 0 = .ok (.iconst 0, 1) := by decide +kernel
theorem dX5_heardOver_1 : decode cX5_heardOver 1 = .ok (.istore_n 2, 1) := by decide +kernel
theorem dX5_heardOver_2 : decode cX5_heardOver 2 = .ok (.iload_n 2, 1) := by decide +kernel
theorem dX5_heardOver_3 : decode cX5_heardOver 3 = .ok (.aload_n 0, 1) := by decide +kernel
theorem dX5_heardOver_4 : decode cX5_heardOver 4 = .ok (.getfield 19, 3) := by decide +kernel
theorem dX5_heardOver_7 : decode cX5_heardOver 7 = .ok (.invokevirtual 50, 3) := by decide +kernel
theorem dX5_heardOver_10 : decode cX5_heardOver 10 = .ok (.if_icmp .ge 39, 3) := by decide +kernel
theorem dX5_heardOver_13 : decode cX5_heardOver 13 = .ok (.aload_n 0, 1) := by decide +kernel
theorem dX5_heardOver_14 : decode cX5_heardOver 14 = .ok (.getfield 19, 3) := by decide +kernel
theorem dX5_heardOver_17 : decode cX5_heardOver 17 = .ok (.iload_n 2, 1) := by decide +kernel
theorem dX5_heardOver_18 : decode cX5_heardOver 18 = .ok (.invokevirtual 191, 3) := by decide +kernel
theorem dX5_heardOver_21 : decode cX5_heardOver 21 = .ok (.checkcast 106, 3) := by decide +kernel
theorem dX5_heardOver_24 : decode cX5_heardOver 24 = .ok (.astore_n 3, 1) := by decide +kernel
theorem dX5_heardOver_25 : decode cX5_heardOver 25 = .ok (.aload_n 3, 1) := by decide +kernel
theorem dX5_heardOver_26 : decode cX5_heardOver 26 = .ok (.getfield 140, 3) := by decide +kernel
theorem dX5_heardOver_29 : decode cX5_heardOver 29 = .ok (.aload_n 1, 1) := by decide +kernel
theorem dX5_heardOver_30 : decode cX5_heardOver 30 = .ok (.if_acmp .ne 13, 3) := by decide +kernel
theorem dX5_heardOver_33 : decode cX5_heardOver 33 = .ok (.aload_n 0, 1) := by decide +kernel
theorem dX5_heardOver_34 : decode cX5_heardOver 34 = .ok (.aload_n 3, 1) := by decide +kernel
theorem dX5_heardOver_35 : decode cX5_heardOver 35 = .ok (.invokevirtual 307, 3) := by decide +kernel
theorem dX5_heardOver_38 : decode cX5_heardOver 38 = .ok (.ifCond .eq 5, 3) := by decide +kernel
theorem dX5_heardOver_41 : decode cX5_heardOver 41 = .ok (.iload_n 2, 1) := by decide +kernel
theorem dX5_heardOver_42 : decode cX5_heardOver 42 = .ok (.ireturn, 1) := by decide +kernel
theorem dX5_heardOver_43 : decode cX5_heardOver 43 = .ok (.iinc 2 1, 3) := by decide +kernel
theorem dX5_heardOver_46 : decode cX5_heardOver 46 = .ok (.goto (-44), 3) := by decide +kernel
theorem dX5_heardOver_49 : decode cX5_heardOver 49 = .ok (.iconst (-1), 1) := by decide +kernel
theorem dX5_heardOver_50 : decode cX5_heardOver 50 = .ok (.ireturn, 1) := by decide +kernel
set_option maxRecDepth 20000 in
theorem ggX5_nextOver_Jx4a65c_size_8abf5 : GoodIn wsX5_nextOver wsJx4a65c_size_8abf5 := goodIn_r _ [11, 12, 44, 45, 46] (by decide +kernel) (by decide +kernel)
set_option maxRecDepth 20000 in
theorem gX5_nextOver_Jx4a65c_size_8abf5 : GoodIn wsX5_nextOver (wsV RX5 50 RJx4a65c yJx4a65c_size_8abf5 wsJx4a65c_size_8abf5) := goodIn_app (goodIn_of _ (by decide +kernel)) ggX5_nextOver_Jx4a65c_size_8abf5
set_option maxRecDepth 20000 in
theorem ggX5_nextOver_Jx4a65c_get_915e3 : GoodIn wsX5_nextOver wsJx4a65c_get_915e3 := goodIn_r _ [16, 12, 17, 18, 19, 20, 21, 22, 23, 24, 25, 26, 27, 10, 28, 29, 44, 45, 46] (by decide +kernel) (by decide +kernel)
set_option maxRecDepth 20000 in
theorem gX5_nextOver_Jx4a65c_get_915e3 : GoodIn wsX5_nextOver (wsV RX5 191 RJx4a65c yJx4a65c_get_915e3 wsJx4a65c_get_915e3) := goodIn_app (goodIn_of _ (by decide +kernel)) ggX5_nextOver_Jx4a65c_get_915e3
theorem dX5_nextOver_0 : decode cX5_nextOver 0 = .ok (.iconst (-1), 1) := by decide +kernel
theorem dX5_nextOver_1 : decode cX5_nextOver 1 = .ok (.istore_n 2, 1) := by decide +kernel
theorem dX5_nextOver_2 : decode cX5_nextOver 2 = .ok (.sipush 9999, 3) := by decide +kernel
theorem dX5_nextOver_5 : decode cX5_nextOver 5 = .ok (.istore_n 3, 1) := by decide +kernel
theorem dX5_nextOver_6 : decode cX5_nextOver 6 = .ok (.iconst 0, 1) := by decide +kernel
theorem dX5_nextOver_7 : decode cX5_nextOver 7 = .ok (.istore 4, 2) := by decide +kernel
theorem dX5_nextOver_9 : decode cX5_nextOver 9 = .ok (.iload 4, 2) := by decide +kernel
theorem dX5_nextOver_11 : decode cX5_nextOver 11 = .ok (.aload_n 0, 1) := by decide +kernel
theorem dX5_nextOver_12 : decode cX5_nextOver 12 = .ok (.getfield 19, 3) := by decide +kernel
theorem dX5_nextOver_15 : decode cX5_nextOver 15 = .ok (.invokevirtual 50, 3) := by decide +kernel
theorem dX5_nextOver_18 : decode cX5_nextOver 18 = .ok (.if_icmp .ge 70, 3) := by decide +kernel
theorem dX5_nextOver_21 : decode cX5_nextOver 21 = .ok (.aload_n 0, 1) := by decide +kernel
theorem dX5_nextOver_22 : decode cX5_nextOver 22 = .ok (.getfield 19, 3) := by decide +kernel
theorem dX5_nextOver_25 : decode cX5_nextOver 25 = .ok (.iload 4, 2) := by decide +kernel
theorem dX5_nextOver_27 : decode cX5_nextOver 27 = .ok (.invokevirtual 191, 3) := by decide +kernel
theorem dX5_nextOver_30 : decode cX5_nextOver 30 = .ok (.checkcast 106, 3) := by decide +kernel
theorem dX5_nextOver_33 : decode cX5_nextOver 33 = .ok (.astore 5, 2) := by decide +kernel
theorem dX5_nextOver_35 : decode cX5_nextOver 35 = .ok (.aload 5, 2) := by decide +kernel
theorem dX5_nextOver_37 : decode cX5_nextOver 37 = .ok (.getfield 140, 3) := by decide +kernel
theorem dX5_nextOver_40 : decode cX5_nextOver 40 = .ok (.aload_n 1, 1) := by decide +kernel
theorem dX5_nextOver_41 : decode cX5_nextOver 41 = .ok (.if_acmp .ne 41, 3) := by decide +kernel
theorem dX5_nextOver_44 : decode cX5_nextOver 44 = .ok (.aload 5, 2) := by decide +kernel
theorem dX5_nextOver_46 : decode cX5_nextOver 46 = .ok (.getfield 154, 3) := by decide +kernel
theorem dX5_nextOver_49 : decode cX5_nextOver 49 = .ok (.ifCond .eq 33, 3) := by decide +kernel
theorem dX5_nextOver_52 : decode cX5_nextOver 52 = .ok (.aload 5, 2) := by decide +kernel
theorem dX5_nextOver_54 : decode cX5_nextOver 54 = .ok (.getfield 145, 3) := by decide +kernel
theorem dX5_nextOver_57 : decode cX5_nextOver 57 = .ok (.aload_n 0, 1) := by decide +kernel
theorem dX5_nextOver_58 : decode cX5_nextOver 58 = .ok (.getfield 32, 3) := by decide +kernel
theorem dX5_nextOver_61 : decode cX5_nextOver 61 = .ok (.if_icmp .lt 21, 3) := by decide +kernel
theorem dX5_nextOver_64 : decode cX5_nextOver 64 = .ok (.aload 5, 2) := by decide +kernel
theorem dX5_nextOver_66 : decode cX5_nextOver 66 = .ok (.getfield 145, 3) := by decide +kernel
theorem dX5_nextOver_69 : decode cX5_nextOver 69 = .ok (.iload_n 3, 1) := by decide +kernel
theorem dX5_nextOver_70 : decode cX5_nextOver 70 = .ok (.if_icmp .ge 12, 3) := by decide +kernel
theorem dX5_nextOver_73 : decode cX5_nextOver 73 = .ok (.iload 4, 2) := by decide +kernel
theorem dX5_nextOver_75 : decode cX5_nextOver 75 = .ok (.istore_n 2, 1) := by decide +kernel
theorem dX5_nextOver_76 : decode cX5_nextOver 76 = .ok (.aload 5, 2) := by decide +kernel
theorem dX5_nextOver_78 : decode cX5_nextOver 78 = .ok (.getfield 145, 3) := by decide +kernel
theorem dX5_nextOver_81 : decode cX5_nextOver 81 = .ok (.istore_n 3, 1) := by decide +kernel
theorem dX5_nextOver_82 : decode cX5_nextOver 82 = .ok (.iinc 4 1, 3) := by decide +kernel
theorem dX5_nextOver_85 : decode cX5_nextOver 85 = .ok (.goto (-76), 3) := by decide +kernel
theorem dX5_nextOver_88 : decode cX5_nextOver 88 = .ok (.iload_n 2, 1) := by decide +kernel
theorem dX5_nextOver_89 : decode cX5_nextOver 89 = .ok (.ireturn, 1) := by decide +kernel
theorem dX5_mix_0 : decode cX5_mix 0 = .ok (.lload_n 0, 1) := by decide +kernel
theorem dX5_mix_1 : decode cX5_mix 1 = .ok (.ldc2_w 323, 3) := by decide +kernel
theorem dX5_mix_4 : decode cX5_mix 4 = .ok (.lmul, 1) := by decide +kernel
theorem dX5_mix_5 : decode cX5_mix 5 = .ok (.lload_n 2, 1) := by decide +kernel
theorem dX5_mix_6 : decode cX5_mix 6 = .ok (.ladd, 1) := by decide +kernel
theorem dX5_mix_7 : decode cX5_mix 7 = .ok (.lreturn, 1) := by decide +kernel
theorem dX6_init_0 : decode cX6_init 0 = .ok (.aload_n 0, 1) := by decide +kernel
theorem dX6_init_1 : decode cX6_init 1 = .ok (.invokespecial 1, 3) := by decide +kernel
theorem dX6_init_4 : decode cX6_init 4 = .ok (.aload_n 0, 1) := by decide +kernel
theorem dX6_init_5 : decode cX6_init 5 = .ok (.iconst 5, 1) := by decide +kernel
theorem dX6_init_6 : decode cX6_init 6 = .ok (.putfield 7, 3) := by decide +kernel
theorem dX6_init_9 : decode cX6_init 9 = .ok (.aload_n 0, 1) := by decide +kernel
theorem dX6_init_10 : decode cX6_init 10 = .ok (.iconst 5, 1) := by decide +kernel
theorem dX6_init_11 : decode cX6_init 11 = .ok (.newarray .int, 2) := by decide +kernel
theorem dX6_init_13 : decode cX6_init 13 = .ok (.putfield 13, 3) := by decide +kernel
theorem dX6_init_16 : decode cX6_init 16 = .ok (.aload_n 0, 1) := by decide +kernel
theorem dX6_init_17 : decode cX6_init 17 = .ok (.iconst 5, 1) := by decide +kernel
theorem dX6_init_18 : decode cX6_init 18 = .ok (.newarray .int, 2) := by decide +kernel
theorem dX6_init_20 : decode cX6_init 20 = .ok (.putfield 17, 3) := by decide +kernel
theorem dX6_init_23 : decode cX6_init 23 = .ok (.aload_n 0, 1) := by decide +kernel
theorem dX6_init_24 : decode cX6_init 24 = .ok (.iconst 5, 1) := by decide +kernel
theorem dX6_init_25 : decode cX6_init 25 = .ok (.newarray .int, 2) := by decide +kernel
theorem dX6_init_27 : decode cX6_init 27 = .ok (.putfield 20, 3) := by decide +kernel
theorem dX6_init_30 : decode cX6_init 30 = .ok (.aload_n 0, 1) := by decide +kernel
theorem dX6_init_31 : decode cX6_init 31 = .ok (.iconst 5, 1) := by decide +kernel
theorem dX6_init_32 : decode cX6_init 32 = .ok (.newarray .int, 2) := by decide +kernel
theorem dX6_init_34 : decode cX6_init 34 = .ok (.putfield 23, 3) := by decide +kernel
theorem dX6_init_37 : decode cX6_init 37 = .ok (.aload_n 0, 1) := by decide +kernel
theorem dX6_init_38 : decode cX6_init 38 = .ok (.bipush 18, 2) := by decide +kernel
theorem dX6_init_40 : decode cX6_init 40 = .ok (.newarray .int, 2) := by decide +kernel
theorem dX6_init_42 : decode cX6_init 42 = .ok (.putfield 26, 3) := by decide +kernel
theorem dX6_init_45 : decode cX6_init 45 = .ok (.aload_n 0, 1) := by decide +kernel
theorem dX6_init_46 : decode cX6_init 46 = .ok (.bipush 8, 2) := by decide +kernel
theorem dX6_init_48 : decode cX6_init 48 = .ok (.newarray .int, 2) := by decide +kernel
theorem dX6_init_50 : decode cX6_init 50 = .ok (.putfield 29, 3) := by decide +kernel
theorem dX6_init_53 : decode cX6_init 53 = .ok (.aload_n 0, 1) := by decide +kernel
theorem dX6_init_54 : decode cX6_init 54 = .ok (.bipush 8, 2) := by decide +kernel
theorem dX6_init_56 : decode cX6_init 56 = .ok (.newarray .int, 2) := by decide +kernel
theorem dX6_init_58 : decode cX6_init 58 = .ok (.putfield 32, 3) := by decide +kernel
theorem dX6_init_61 : decode cX6_init 61 = .ok (.aload_n 0, 1) := by decide +kernel
theorem dX6_init_62 : decode cX6_init 62 = .ok (.bipush 8, 2) := by decide +kernel
theorem dX6_init_64 : decode cX6_init 64 = .ok (.newarray .int, 2) := by decide +kernel
theorem dX6_init_66 : decode cX6_init 66 = .ok (.putfield 35, 3) := by decide +kernel
theorem dX6_init_69 : decode cX6_init 69 = .ok (.aload_n 0, 1) := by decide +kernel
theorem dX6_init_70 : decode cX6_init 70 = .ok (.bipush 8, 2) := by decide +kernel
theorem dX6_init_72 : decode cX6_init 72 = .ok (.newarray .int, 2) := by decide +kernel
theorem dX6_init_74 : decode cX6_init 74 = .ok (.putfield 38, 3) := by decide +kernel
theorem dX6_init_77 : decode cX6_init 77 = .ok (.aload_n 0, 1) := by decide +kernel
theorem dX6_init_78 : decode cX6_init 78 = .ok (.bipush 8, 2) := by decide +kernel
theorem dX6_init_80 : decode cX6_init 80 = .ok (.newarray .int, 2) := by decide +kernel
theorem dX6_init_82 : decode cX6_init 82 = .ok (.putfield 41, 3) := by decide +kernel
theorem dX6_init_85 : decode cX6_init 85 = .ok (.aload_n 0, 1) := by decide +kernel
theorem dX6_init_86 : decode cX6_init 86 = .ok (.bipush 8, 2) := by decide +kernel
theorem dX6_init_88 : decode cX6_init 88 = .ok (.newarray .int, 2) := by decide +kernel
theorem dX6_init_90 : decode cX6_init 90 = .ok (.putfield 44, 3) := by decide +kernel
theorem dX6_init_93 : decode cX6_init 93 = .ok (.aload_n 0, 1) := by decide +kernel
theorem dX6_init_94 : decode cX6_init 94 = .ok (.bipush 8, 2) := by decide +kernel
theorem dX6_init_96 : decode cX6_init 96 = .ok (.newarray .int, 2) := by decide +kernel
theorem dX6_init_98 : decode cX6_init 98 = .ok (.putfield 47, 3) := by decide +kernel
theorem dX6_init_101 : decode cX6_init 101 = .ok (.aload_n 0, 1) := by decide +kernel
theorem dX6_init_102 : decode cX6_init 102 = .ok (.bipush 16, 2) := by decide +kernel
theorem dX6_init_104 : decode cX6_init 104 = .ok (.newarray .int, 2) := by decide +kernel
theorem dX6_init_106 : decode cX6_init 106 = .ok (.putfield 50, 3) := by decide +kernel
theorem dX6_init_109 : decode cX6_init 109 = .ok (.aload_n 0, 1) := by decide +kernel
theorem dX6_init_110 : decode cX6_init 110 = .ok (.bipush 16, 2) := by decide +kernel
theorem dX6_init_112 : decode cX6_init 112 = .ok (.newarray .int, 2) := by decide +kernel
theorem dX6_init_114 : decode cX6_init 114 = .ok (.putfield 53, 3) := by decide +kernel
theorem dX6_init_117 : decode cX6_init 117 = .ok (.aload_n 0, 1) := by decide +kernel
theorem dX6_init_118 : decode cX6_init 118 = .ok (.bipush 16, 2) := by decide +kernel
theorem dX6_init_120 : decode cX6_init 120 = .ok (.newarray .int, 2) := by decide +kernel
theorem dX6_init_122 : decode cX6_init 122 = .ok (.putfield 56, 3) := by decide +kernel
theorem dX6_init_125 : decode cX6_init 125 = .ok (.aload_n 0, 1) := by decide +kernel
theorem dX6_init_126 : decode cX6_init 126 = .ok (.bipush 16, 2) := by decide +kernel
theorem dX6_init_128 : decode cX6_init 128 = .ok (.newarray .int, 2) := by decide +kernel
theorem dX6_init_130 : decode cX6_init 130 = .ok (.putfield 59, 3) := by decide +kernel
theorem dX6_init_133 : decode cX6_init 133 = .ok (.aload_n 0, 1) := by decide +kernel
theorem dX6_init_134 : decode cX6_init 134 = .ok (.bipush 16, 2) := by decide +kernel
theorem dX6_init_136 : decode cX6_init 136 = .ok (.newarray .int, 2) := by decide +kernel
theorem dX6_init_138 : decode cX6_init 138 = .ok (.putfield 62, 3) := by decide +kernel
theorem dX6_init_141 : decode cX6_init 141 = .ok (.return_, 1) := by decide +kernel
theorem dX6_thrown_0 : decode cX6_thrown 0 = .ok (.aload_n 0, 1) := by decide +kernel
theorem dX6_thrown_1 : decode cX6_thrown 1 = .ok (.getfield 65, 3) := by decide +kernel
theorem dX6_thrown_4 : decode cX6_thrown 4 = .ok (.ireturn, 1) := by decide +kernel
theorem dX6_fail_0 : decode cX6_fail 0 = .ok (.aload_n 0, 1) := by decide +kernel
theorem dX6_fail_1 : decode cX6_fail 1 = .ok (.iload_n 1, 1) := by decide +kernel
theorem dX6_fail_2 : decode cX6_fail 2 = .ok (.putfield 65, 3) := by decide +kernel
theorem dX6_fail_5 : decode cX6_fail 5 = .ok (.iconst 0, 1) := by decide +kernel
theorem dX6_fail_6 : decode cX6_fail 6 = .ok (.ireturn, 1) := by decide +kernel
theorem dX6_isIn_0 : decode cX6_isIn 0 = .ok (.iload_n 0, 1) := by decide +kernel
theorem dX6_isIn_1 : decode cX6_isIn 1 = .ok (.iload_n 1, 1) := by decide +kernel
theorem dX6_isIn_2 : decode cX6_isIn 2 = .ok (.if_icmp .lt 12, 3) := by decide +kernel
theorem dX6_isIn_5 : decode cX6_isIn 5 = .ok (.iload_n 0, 1) := by decide +kernel
theorem dX6_isIn_6 : decode cX6_isIn 6 = .ok (.iload_n 2, 1) := by decide +kernel
theorem dX6_isIn_7 : decode cX6_isIn 7 = .ok (.if_icmp .gt 7, 3) := by decide +kernel
theorem dX6_isIn_10 : decode cX6_isIn 10 = .ok (.iconst 1, 1) := by decide +kernel
theorem dX6_isIn_11 : decode cX6_isIn 11 = .ok (.goto 4, 3) := by decide +kernel
theorem dX6_isIn_14 : decode cX6_isIn 14 = .ok (.iconst 0, 1) := by decide +kernel
theorem dX6_isIn_15 : decode cX6_isIn 15 = .ok (.ireturn, 1) := by decide +kernel
theorem dX6_has_0 : decode cX6_has 0 = .ok (.iload_n 0, 1) := by decide +kernel
theorem dX6_has_1 : decode cX6_has 1 = .ok (.iload_n 1, 1) := by decide +kernel
theorem dX6_has_2 : decode cX6_has 2 = .ok (.ishr, 1) := by decide +kernel
theorem dX6_has_3 : decode cX6_has 3 = .ok (.iconst 1, 1) := by decide +kernel
theorem dX6_has_4 : decode cX6_has 4 = .ok (.iand, 1) := by decide +kernel
theorem dX6_has_5 : decode cX6_has 5 = .ok (.iconst 1, 1) := by decide +kernel
theorem dX6_has_6 : decode cX6_has 6 = .ok (.if_icmp .ne 7, 3) := by decide +kernel
theorem dX6_has_9 : decode cX6_has 9 = .ok (.iconst 1, 1) := by decide +kernel
theorem dX6_has_10 : decode cX6_has 10 = .ok (.goto 4, 3) := by decide +kernel
theorem dX6_has_13 : decode cX6_has 13 = .ok (.iconst 0, 1) := by decide +kernel
theorem dX6_has_14 : decode cX6_has 14 = .ok (.ireturn, 1) := by decide +kernel
set_option maxRecDepth 20000 in
theorem ggX6_isAntenna_X6_isIn : GoodIn wsX6_isAntenna wsX6_isIn := goodIn_r _ [5] (by decide +kernel) (by decide +kernel)
set_option maxRecDepth 20000 in
theorem gX6_isAntenna_X6_isIn : GoodIn wsX6_isAntenna (va_wsS RX6 71 yX6_isIn wsX6_isIn) := goodIn_app (goodIn_of _ (by decide +kernel)) ggX6_isAntenna_X6_isIn
theorem dX6_isAntenna_0 : decode cX6_isAntenna 0 = .ok (.iload_n 1, 1) := by decide +kernel
theorem dX6_isAntenna_1 : decode cX6_isAntenna 1 = .ok (.iconst 0, 1) := by decide +kernel
theorem dX6_isAntenna_2 : decode cX6_isAntenna 2 = .ok (.aload_n 0, 1) := by decide +kernel
theorem dX6_isAntenna_3 : decode cX6_isAntenna 3 = .ok (.getfield 68, 3) := by decide +kernel
theorem dX6_isAntenna_6 : decode cX6_isAntenna 6 = .ok (.iconst 1, 1) := by decide +kernel
theorem dX6_isAntenna_7 : decode cX6_isAntenna 7 = .ok (.isub, 1) := by decide +kernel
theorem dX6_isAntenna_8 : decode cX6_isAntenna 8 = .ok (.invokestatic 71, 3) := by decide +kernel
theorem dX6_isAntenna_11 : decode cX6_isAntenna 11 = .ok (.ireturn, 1) := by decide +kernel
set_option maxRecDepth 20000 in
theorem ggX6_isSatellite_X6_isIn : GoodIn wsX6_isSatellite wsX6_isIn := goodIn_r _ [5] (by decide +kernel) (by decide +kernel)
set_option maxRecDepth 20000 in
theorem gX6_isSatellite_X6_isIn : GoodIn wsX6_isSatellite (va_wsS RX6 71 yX6_isIn wsX6_isIn) := goodIn_app (goodIn_of _ (by decide +kernel)) ggX6_isSatellite_X6_isIn
theorem dX6_isSatellite_0 : decode cX6_isSatellite 0 = .ok (.iload_n 1, 1) := by decide +kernel
theorem dX6_isSatellite_1 : decode cX6_isSatellite 1 = .ok (.iconst 0, 1) := by decide +kernel
theorem dX6_isSatellite_2 : decode cX6_isSatellite 2 = .ok (.aload_n 0, 1) := by decide +kernel
theorem dX6_isSatellite_3 : decode cX6_isSatellite 3 = .ok (.getfield 75, 3) := by decide +kernel
theorem dX6_isSatellite_6 : decode cX6_isSatellite 6 = .ok (.iconst 1, 1) := by decide +kernel
theorem dX6_isSatellite_7 : decode cX6_isSatellite 7 = .ok (.isub, 1) := by decide +kernel
theorem dX6_isSatellite_8 : decode cX6_isSatellite 8 = .ok (.invokestatic 71, 3) := by decide +kernel
theorem dX6_isSatellite_11 : decode cX6_isSatellite 11 = .ok (.ireturn, 1) := by decide +kernel
set_option maxRecDepth 20000 in
theorem ggX6_isPass_X6_isIn : GoodIn wsX6_isPass wsX6_isIn := goodIn_r _ [5] (by decide +kernel) (by decide +kernel)
set_option maxRecDepth 20000 in
theorem gX6_isPass_X6_isIn : GoodIn wsX6_isPass (va_wsS RX6 71 yX6_isIn wsX6_isIn) := goodIn_app (goodIn_of _ (by decide +kernel)) ggX6_isPass_X6_isIn
theorem dX6_isPass_0 : decode cX6_isPass 0 = .ok (.iload_n 1, 1) := by decide +kernel
theorem dX6_isPass_1 : decode cX6_isPass 1 = .ok (.iconst 0, 1) := by decide +kernel
theorem dX6_isPass_2 : decode cX6_isPass 2 = .ok (.aload_n 0, 1) := by decide +kernel
theorem dX6_isPass_3 : decode cX6_isPass 3 = .ok (.getfield 78, 3) := by decide +kernel
theorem dX6_isPass_6 : decode cX6_isPass 6 = .ok (.iconst 1, 1) := by decide +kernel
theorem dX6_isPass_7 : decode cX6_isPass 7 = .ok (.isub, 1) := by decide +kernel
theorem dX6_isPass_8 : decode cX6_isPass 8 = .ok (.invokestatic 71, 3) := by decide +kernel
theorem dX6_isPass_11 : decode cX6_isPass 11 = .ok (.ireturn, 1) := by decide +kernel
set_option maxRecDepth 20000 in
theorem ggX6_arePasses_X6_isIn : GoodIn wsX6_arePasses wsX6_isIn := goodIn_r _ [5] (by decide +kernel) (by decide +kernel)
set_option maxRecDepth 20000 in
theorem gX6_arePasses_X6_isIn : GoodIn wsX6_arePasses (va_wsS RX6 71 yX6_isIn wsX6_isIn) := goodIn_app (goodIn_of _ (by decide +kernel)) ggX6_arePasses_X6_isIn
theorem dX6_arePasses_0 : decode cX6_arePasses 0 = .ok (.iload_n 1, 1) := by decide +kernel
theorem dX6_arePasses_1 : decode cX6_arePasses 1 = .ok (.iconst 0, 1) := by decide +kernel
theorem dX6_arePasses_2 : decode cX6_arePasses 2 = .ok (.iconst 1, 1) := by decide +kernel
theorem dX6_arePasses_3 : decode cX6_arePasses 3 = .ok (.aload_n 0, 1) := by decide +kernel
theorem dX6_arePasses_4 : decode cX6_arePasses 4 = .ok (.getfield 78, 3) := by decide +kernel
theorem dX6_arePasses_7 : decode cX6_arePasses 7 = .ok (.ishl, 1) := by decide +kernel
theorem dX6_arePasses_8 : decode cX6_arePasses 8 = .ok (.iconst 1, 1) := by decide +kernel
theorem dX6_arePasses_9 : decode cX6_arePasses 9 = .ok (.isub, 1) := by decide +kernel
theorem dX6_arePasses_10 : decode cX6_arePasses 10 = .ok (.invokestatic 71, 3) := by decide +kernel
theorem dX6_arePasses_13 : decode cX6_arePasses 13 = .ok (.ireturn, 1) := by decide +kernel
set_option maxRecDepth 20000 in
theorem ggX6_addAntenna_X6_isIn : GoodIn wsX6_addAntenna wsX6_isIn := goodIn_r _ [9] (by decide +kernel) (by decide +kernel)
set_option maxRecDepth 20000 in
theorem gX6_addAntenna_X6_isIn : GoodIn wsX6_addAntenna (va_wsS RX6 71 yX6_isIn wsX6_isIn) := goodIn_app (goodIn_of _ (by decide +kernel)) ggX6_addAntenna_X6_isIn
set_option maxRecDepth 20000 in
theorem ggX6_addAntenna_X6_fail : GoodIn wsX6_addAntenna wsX6_fail := goodIn_r _ [13, 1, 14, 15, 16, 17, 18, 19, 20, 21, 22, 23, 24, 25, 26, 27, 28, 29, 30, 31, 32, 33, 34, 35, 36, 37, 38, 39] (by decide +kernel) (by decide +kernel)
set_option maxRecDepth 20000 in
theorem gX6_addAntenna_X6_fail : GoodIn wsX6_addAntenna (wsV RX6 81 RX6 yX6_fail wsX6_fail) := goodIn_app (goodIn_of _ (by decide +kernel)) ggX6_addAntenna_X6_fail
theorem dX6_addAntenna_0 : decode cX6_addAntenna 0 = .ok (.aload_n 0, 1) := by decide +kernel
theorem dX6_addAntenna_1 : decode cX6_addAntenna 1 = .ok (.iconst 0, 1) := by decide +kernel
theorem dX6_addAntenna_2 : decode cX6_addAntenna 2 = .ok (.putfield 65, 3) := by decide +kernel
