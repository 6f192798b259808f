theorem dX5_count_35 : decode cX5_count 35 = .ok (.ireturn, 1) := by decide +kernel
theorem dX5_count_36 : decode cX5_count 36 = .ok (.aload_n 0, 1) := by decide +kernel
theorem dX5_count_37 : decode cX5_count 37 = .ok (.getfield 16, 3) := by decide +kernel
theorem dX5_count_40 : decode cX5_count 40 = .ok (.invokevirtual 50, 3) := by decide +kernel
theorem dX5_count_43 : decode cX5_count 43 = .ok (.ireturn, 1) := by decide +kernel
theorem dX5_count_44 : decode cX5_count 44 = .ok (.aload_n 0, 1) := by decide +kernel
theorem dX5_count_45 : decode cX5_count 45 = .ok (.getfield 19, 3) := by decide +kernel
theorem dX5_count_48 : decode cX5_count 48 = .ok (.invokevirtual 50, 3) := by decide +kernel
theorem dX5_count_51 : decode cX5_count 51 = .ok (.ireturn, 1) := by decide +kernel
theorem dX5_count_52 : decode cX5_count 52 = .ok (.new 124, 3) := by decide +kernel
theorem dX5_count_55 : decode cX5_count 55 = .ok (.dup, 1) := by decide +kernel
theorem dX5_count_56 : decode cX5_count 56 = .ok (.ldc 126, 2) := by decide +kernel
theorem dX5_count_58 : decode cX5_count 58 = .ok (.invokespecial 128, 3) := by decide +kernel
theorem dX5_count_61 : decode cX5_count 61 = .ok (.athrow, 1) := by decide +kernel
set_option maxRecDepth 20000 in
theorem ggX5_pass_X5_passAt : GoodIn wsX5_pass wsX5_passAt := goodIn_ca (goodIn_r _ [15, 1, 2, 16, 17, 18, 19, 20, 21, 22, 23, 24, 25, 26, 27, 28, 29, 30, 31, 32, 33, 34, 35, 36, 37, 38, 39, 40, 83, 84, 85, 86, 87, 88, 89, 90, 91, 92] (by decide +kernel) (by decide +kernel)) (goodIn_sub (fun _ h => List.mem_cons_of_mem _ (List.mem_append_right _ h)) (by decide +kernel))
set_option maxRecDepth 20000 in
theorem gX5_pass_X5_passAt : GoodIn wsX5_pass (wsV RX5 129 RX5 yX5_passAt wsX5_passAt) := goodIn_app (goodIn_of _ (by decide +kernel)) ggX5_pass_X5_passAt
set_option maxRecDepth 20000 in
theorem ggX5_pass_X2_worth : GoodIn wsX5_pass wsX2_worth := goodIn_r _ [45, 46, 47, 48, 49, 63, 64, 65, 66, 67, 68, 69, 70, 71, 72, 73, 74, 75, 76, 77] (by decide +kernel) (by decide +kernel)
set_option maxRecDepth 20000 in
theorem gX5_pass_X2_worth : GoodIn wsX5_pass (wsV RX5 151 RX2 yX2_worth wsX2_worth) := goodIn_app (goodIn_of _ (by decide +kernel)) ggX5_pass_X2_worth
set_option maxRecDepth 20000 in
theorem ggX5_pass_X5_startOf : GoodIn wsX5_pass wsX5_startOf := goodIn_r _ [53, 7, 16, 17, 9, 3, 8, 54, 55, 56, 57, 18, 19, 20, 21, 22, 23, 24, 25, 26, 27, 28, 29, 30, 31, 32, 33, 34, 35, 36, 37, 38, 39, 40, 58, 59, 60, 44, 61, 49, 62, 63, 64, 65, 66, 67, 68, 69, 83, 84, 85, 86, 87, 88, 89, 90, 91, 92] (by decide +kernel) (by decide +kernel)
set_option maxRecDepth 20000 in
theorem gX5_pass_X5_startOf : GoodIn wsX5_pass (wsV RX5 161 RX5 yX5_startOf wsX5_startOf) := goodIn_app (goodIn_of _ (by decide +kernel)) ggX5_pass_X5_startOf
theorem dX5_pass_0 : decode cX5_pass 0 = .ok (.aload_n 0, 1) := by decide +kernel
theorem dX5_pass_1 : decode cX5_pass 1 = .ok (.iload_n 1, 1) := by decide +kernel
theorem dX5_pass_2 : decode cX5_pass 2 = .ok (.invokevirtual 129, 3) := by decide +kernel
theorem dX5_pass_5 : decode cX5_pass 5 = .ok (.astore_n 3, 1) := by decide +kernel
theorem dX5_pass_6 : decode cX5_pass 6 = .ok (.iload_n 2, 1) := by decide +kernel
theorem dX5_pass_7 : decode cX5_pass 7 = .ok (.tableswitch 111 0 7 #[45, 53, 61, 66, 71, 76, 89, 94], 45) := by decide +kernel
theorem dX5_pass_52 : decode cX5_pass 52 = .ok (.aload_n 3, 1) := by decide +kernel
theorem dX5_pass_53 : decode cX5_pass 53 = .ok (.getfield 133, 3) := by decide +kernel
theorem dX5_pass_56 : decode cX5_pass 56 = .ok (.getfield 137, 3) := by decide +kernel
theorem dX5_pass_59 : decode cX5_pass 59 = .ok (.ireturn, 1) := by decide +kernel
theorem dX5_pass_60 : decode cX5_pass 60 = .ok (.aload_n 3, 1) := by decide +kernel
theorem dX5_pass_61 : decode cX5_pass 61 = .ok (.getfield 140, 3) := by decide +kernel
theorem dX5_pass_64 : decode cX5_pass 64 = .ok (.getfield 144, 3) := by decide +kernel
theorem dX5_pass_67 : decode cX5_pass 67 = .ok (.ireturn, 1) := by decide +kernel
theorem dX5_pass_68 : decode cX5_pass 68 = .ok (.aload_n 3, 1) := by decide +kernel
theorem dX5_pass_69 : decode cX5_pass 69 = .ok (.getfield 145, 3) := by decide +kernel
theorem dX5_pass_72 : decode cX5_pass 72 = .ok (.ireturn, 1) := by decide +kernel
theorem dX5_pass_73 : decode cX5_pass 73 = .ok (.aload_n 3, 1) := by decide +kernel
theorem dX5_pass_74 : decode cX5_pass 74 = .ok (.getfield 148, 3) := by decide +kernel
theorem dX5_pass_77 : decode cX5_pass 77 = .ok (.ireturn, 1) := by decide +kernel
theorem dX5_pass_78 : decode cX5_pass 78 = .ok (.aload_n 3, 1) := by decide +kernel
theorem dX5_pass_79 : decode cX5_pass 79 = .ok (.invokevirtual 151, 3) := by decide +kernel
theorem dX5_pass_82 : decode cX5_pass 82 = .ok (.ireturn, 1) := by decide +kernel
theorem dX5_pass_83 : decode cX5_pass 83 = .ok (.aload_n 3, 1) := by decide +kernel
theorem dX5_pass_84 : decode cX5_pass 84 = .ok (.getfield 154, 3) := by decide +kernel
theorem dX5_pass_87 : decode cX5_pass 87 = .ok (.ifCond .eq 7, 3) := by decide +kernel
theorem dX5_pass_90 : decode cX5_pass 90 = .ok (.iconst 1, 1) := by decide +kernel
theorem dX5_pass_91 : decode cX5_pass 91 = .ok (.goto 4, 3) := by decide +kernel
theorem dX5_pass_94 : decode cX5_pass 94 = .ok (.iconst 0, 1) := by decide +kernel
theorem dX5_pass_95 : decode cX5_pass 95 = .ok (.ireturn, 1) := by decide +kernel
theorem dX5_pass_96 : decode cX5_pass 96 = .ok (.aload_n 3, 1) := by decide +kernel
theorem dX5_pass_97 : decode cX5_pass 97 = .ok (.getfield 158, 3) := by decide +kernel
theorem dX5_pass_100 : decode cX5_pass 100 = .ok (.ireturn, 1) := by decide +kernel
theorem dX5_pass_101 : decode cX5_pass 101 = .ok (.aload_n 3, 1) := by decide +kernel
theorem dX5_pass_102 : decode cX5_pass 102 = .ok (.getfield 154, 3) := by decide +kernel
theorem dX5_pass_105 : decode cX5_pass 105 = .ok (.ifCond .eq 11, 3) := by decide +kernel
theorem dX5_pass_108 : decode cX5_pass 108 = .ok (.aload_n 0, 1) := by decide +kernel
theorem dX5_pass_109 : decode cX5_pass 109 = .ok (.aload_n 3, 1) := by decide +kernel
theorem dX5_pass_110 : decode cX5_pass 110 = .ok (.invokevirtual 161, 3) := by decide +kernel
theorem dX5_pass_113 : decode cX5_pass 113 = .ok (.goto 4, 3) := by decide +kernel
theorem dX5_pass_116 : decode cX5_pass 116 = .ok (.iconst (-1), 1) := by decide +kernel
theorem dX5_pass_117 : decode cX5_pass 117 = .ok (.ireturn, 1) := by decide +kernel
theorem dX5_pass_118 : decode cX5_pass 118 = .ok (.new 124, 3) := by decide +kernel
theorem dX5_pass_121 : decode cX5_pass 121 = .ok (.dup, 1) := by decide +kernel
theorem dX5_pass_122 : decode cX5_pass 122 = .ok (.ldc 165, 2) := by decide +kernel
theorem dX5_pass_124 : decode cX5_pass 124 = .ok (.invokespecial 128, 3) := by decide +kernel
theorem dX5_pass_127 : decode cX5_pass 127 = .ok (.athrow, 1) := by decide +kernel
set_option maxRecDepth 20000 in
theorem ggX5_isConflict_X5_passAt : GoodIn wsX5_isConflict wsX5_passAt := goodIn_ca (goodIn_r _ [7, 8, 9, 10, 11, 12, 13, 14, 15, 16, 17, 18, 19, 20, 21, 22, 23, 24, 25, 26, 27, 28, 29, 30, 31, 32, 33, 34, 52, 53, 54, 55, 56, 57, 58, 59, 60, 61] (by decide +kernel) (by decide +kernel)) (goodIn_sub (fun _ h => List.mem_cons_of_mem _ (List.mem_append_right _ h)) (by decide +kernel))
set_option maxRecDepth 20000 in
theorem gX5_isConflict_X5_passAt : GoodIn wsX5_isConflict (wsV RX5 129 RX5 yX5_passAt wsX5_passAt) := goodIn_app (goodIn_of _ (by decide +kernel)) ggX5_isConflict_X5_passAt
set_option maxRecDepth 20000 in
theorem ggX5_isConflict_X5_areInConflict : GoodIn wsX5_isConflict wsX5_areInConflict := goodIn_r _ [38, 39, 40, 41, 42, 43, 44, 45, 46, 47, 48, 49, 50, 51, 62, 63, 64, 65, 66, 67, 68, 69, 70, 71, 72, 73, 52, 53, 54, 55, 56, 57, 58] (by decide +kernel) (by decide +kernel)
set_option maxRecDepth 20000 in
theorem gX5_isConflict_X5_areInConflict : GoodIn wsX5_isConflict (wsV RX5 169 RX5 yX5_areInConflict wsX5_areInConflict) := goodIn_app (goodIn_of _ (by decide +kernel)) ggX5_isConflict_X5_areInConflict
theorem dX5_isConflict_0 : decode cX5_isConflict 0 = .ok (.aload_n 0, 1) := by decide +kernel
theorem dX5_isConflict_1 : decode cX5_isConflict 1 = .ok (.iload_n 1, 1) := by decide +kernel
theorem dX5_isConflict_2 : decode cX5_isConflict 2 = .ok (.invokevirtual 129, 3) := by decide +kernel
theorem dX5_isConflict_5 : decode cX5_isConflict 5 = .ok (.astore_n 3, 1) := by decide +kernel
theorem dX5_isConflict_6 : decode cX5_isConflict 6 = .ok (.aload_n 0, 1) := by decide +kernel
theorem dX5_isConflict_7 : decode cX5_isConflict 7 = .ok (.iload_n 2, 1) := by decide +kernel
theorem dX5_isConflict_8 : decode cX5_isConflict 8 = .ok (.invokevirtual 129, 3) := by decide +kernel
theorem dX5_isConflict_11 : decode cX5_isConflict 11 = .ok (.astore 4, 2) := by decide +kernel
theorem dX5_isConflict_13 : decode cX5_isConflict 13 = .ok (.iload_n 1, 1) := by decide +kernel
theorem dX5_isConflict_14 : decode cX5_isConflict 14 = .ok (.iload_n 2, 1) := by decide +kernel
theorem dX5_isConflict_15 : decode cX5_isConflict 15 = .ok (.if_icmp .ne 13, 3) := by decide +kernel
theorem dX5_isConflict_18 : decode cX5_isConflict 18 = .ok (.new 43, 3) := by decide +kernel
theorem dX5_isConflict_21 : decode cX5_isConflict 21 = .ok (.dup, 1) := by decide +kernel
theorem dX5_isConflict_22 : decode cX5_isConflict 22 = .ok (.ldc 167, 2) := by decide +kernel
theorem dX5_isConflict_24 : decode cX5_isConflict 24 = .ok (.invokespecial 47, 3) := by decide +kernel
theorem dX5_isConflict_27 : decode cX5_isConflict 27 = .ok (.athrow, 1) := by decide +kernel
theorem dX5_isConflict_28 : decode cX5_isConflict 28 = .ok (.aload_n 0, 1) := by decide +kernel
theorem dX5_isConflict_29 : decode cX5_isConflict 29 = .ok (.aload_n 3, 1) := by decide +kernel
theorem dX5_isConflict_30 : decode cX5_isConflict 30 = .ok (.aload 4, 2) := by decide +kernel
theorem dX5_isConflict_32 : decode cX5_isConflict 32 = .ok (.invokevirtual 169, 3) := by decide +kernel
theorem dX5_isConflict_35 : decode cX5_isConflict 35 = .ok (.ireturn, 1) := by decide +kernel
set_option maxRecDepth 20000 in
theorem ggX5_canTake_X5_passAt : GoodIn wsX5_canTake wsX5_passAt := goodIn_ca (goodIn_r _ [5, 6, 7, 8, 9, 10, 11, 12, 13, 14, 15, 16, 17, 18, 19, 20, 21, 22, 23, 24, 25, 26, 27, 28, 29, 30, 31, 32, 74, 75, 76, 77, 78, 79, 80, 81, 82, 83] (by decide +kernel) (by decide +kernel)) (goodIn_sub (fun _ h => List.mem_cons_of_mem _ (List.mem_append_right _ h)) (by decide +kernel))
set_option maxRecDepth 20000 in
theorem gX5_canTake_X5_passAt : GoodIn wsX5_canTake (wsV RX5 129 RX5 yX5_passAt wsX5_passAt) := goodIn_app (goodIn_of _ (by decide +kernel)) ggX5_canTake_X5_passAt
set_option maxRecDepth 20000 in
theorem ggX5_canTake_X5_isFree : GoodIn wsX5_canTake wsX5_isFree := goodIn_r _ [36, 37, 38, 39, 40, 41, 42, 43, 44, 4, 45, 46, 47, 48, 10, 11, 12, 13, 14, 15, 16, 17, 18, 19, 20, 21, 22, 23, 24, 25, 26, 27, 28, 29, 30, 31, 32, 49, 50, 51, 52, 53, 54, 55, 56, 57, 58, 59, 8, 9, 60, 61, 62, 63, 64, 65, 66, 67, 68, 69, 70, 71, 72, 73, 84, 85, 86, 87, 88, 89, 90, 74, 75, 76, 77, 78, 79, 80, 81, 82, 83, 91, 92, 93, 94, 95] (by decide +kernel) (by decide +kernel)
set_option maxRecDepth 20000 in
theorem gX5_canTake_X5_isFree : GoodIn wsX5_canTake (wsV RX5 173 RX5 yX5_isFree wsX5_isFree) := goodIn_app (goodIn_of _ (by decide +kernel)) ggX5_canTake_X5_isFree
theorem dX5_canTake_0 : decode cX5_canTake 0 = .ok (.aload_n 0, 1) := by decide +kernel
theorem dX5_canTake_1 : decode cX5_canTake 1 = .ok (.aload_n 0, 1) := by decide +kernel
theorem dX5_canTake_2 : decode cX5_canTake 2 = .ok (.iload_n 1, 1) := by decide +kernel
theorem dX5_canTake_3 : decode cX5_canTake 3 = .ok (.invokevirtual 129, 3) := by decide +kernel
theorem dX5_canTake_6 : decode cX5_canTake 6 = .ok (.invokevirtual 173, 3) := by decide +kernel
theorem dX5_canTake_9 : decode cX5_canTake 9 = .ok (.ireturn, 1) := by decide +kernel
set_option maxRecDepth 20000 in
theorem ggX5_best_X5_prepareSearch : GoodIn wsX5_best wsX5_prepareSearch := goodIn_r _ [7, 8, 9, 1, 10, 11, 2, 12, 13, 14, 15, 16, 17, 18, 19, 20, 21, 22, 23, 24, 25, 26, 27, 28, 29, 30, 31, 32, 33, 34, 35, 36, 37, 38, 39, 40, 41, 42, 43, 44, 45, 46, 47, 6, 48, 49, 50, 51, 52, 53, 54, 55, 56, 57, 58, 59, 60, 61, 62, 63, 64, 65, 66, 67, 68, 69, 70, 71, 72, 73, 74, 75, 76, 77, 78, 79, 80, 81, 82, 83, 84, 85, 86, 87, 117, 118, 119, 120, 121, 122, 123, 124, 125, 126, 127, 128, 129, 130, 131, 132, 133, 134, 135, 136, 137, 138, 139, 140, 141, 142, 143, 144, 145, 146, 147, 148, 149, 150] (by decide +kernel) (by decide +kernel)
set_option maxRecDepth 20000 in
theorem gX5_best_X5_prepareSearch : GoodIn wsX5_best (wsV RX5 177 RX5 yX5_prepareSearch wsX5_prepareSearch) := goodIn_app (goodIn_of _ (by decide +kernel)) ggX5_best_X5_prepareSearch
set_option maxRecDepth 20000 in
theorem ggX5_best_X5_searchFrom : GoodIn wsX5_best wsX5_searchFrom := goodIn_r _ [90, 12, 11, 10, 91, 92, 93, 94, 95, 96, 97, 98, 99, 100, 101, 102, 103, 104, 105, 106, 107, 108, 109, 110, 111, 112, 113, 114, 6, 115, 116, 88, 89, 124, 125, 126, 127] (by decide +kernel) (by decide +kernel)
set_option maxRecDepth 20000 in
theorem gX5_best_X5_searchFrom : GoodIn wsX5_best (va_wsS RX5 180 yX5_searchFrom wsX5_searchFrom) := goodIn_app (goodIn_of _ (by decide +kernel)) ggX5_best_X5_searchFrom
theorem dX5_best_0 : decode cX5_best 0 = .ok (.aload_n 0, 1) := by decide +kernel
theorem dX5_best_1 : decode cX5_best 1 = .ok (.invokevirtual 177, 3) := by decide +kernel
theorem dX5_best_4 : decode cX5_best 4 = .ok (.istore_n 1, 1) := by decide +kernel
theorem dX5_best_5 : decode cX5_best 5 = .ok (.aload_n 0, 1) := by decide +kernel
theorem dX5_best_6 : decode cX5_best 6 = .ok (.getfield 28, 3) := by decide +kernel
theorem dX5_best_9 : decode cX5_best 9 = .ok (.iconst 0, 1) := by decide +kernel
theorem dX5_best_10 : decode cX5_best 10 = .ok (.iconst 0, 1) := by decide +kernel
theorem dX5_best_11 : decode cX5_best 11 = .ok (.iload_n 1, 1) := by decide +kernel
theorem dX5_best_12 : decode cX5_best 12 = .ok (.iconst 0, 1) := by decide +kernel
theorem dX5_best_13 : decode cX5_best 13 = .ok (.invokestatic 180, 3) := by decide +kernel
theorem dX5_best_16 : decode cX5_best 16 = .ok (.aload_n 0, 1) := by decide +kernel
theorem dX5_best_17 : decode cX5_best 17 = .ok (.getfield 28, 3) := by decide +kernel
theorem dX5_best_20 : decode cX5_best 20 = .ok (.getfield 184, 3) := by decide +kernel
theorem dX5_best_23 : decode cX5_best 23 = .ok (.ireturn, 1) := by decide +kernel
set_option maxRecDepth 20000 in
theorem ggX5_weight_X5_checkSet : GoodIn wsX5_weight wsX5_checkSet := goodIn_ca (goodIn_r _ [7, 8, 9, 1, 10, 11, 12, 13, 14, 15, 45, 46, 47, 48, 49, 50, 51, 52, 53, 54] (by decide +kernel) (by decide +kernel)) (goodIn_sub (fun _ h => List.mem_cons_of_mem _ (List.mem_append_right _ h)) (by decide +kernel))
set_option maxRecDepth 20000 in
theorem gX5_weight_X5_checkSet : GoodIn wsX5_weight (wsV RX5 187 RX5 yX5_checkSet wsX5_checkSet) := goodIn_app (goodIn_of _ (by decide +kernel)) ggX5_weight_X5_checkSet
set_option maxRecDepth 20000 in
theorem ggX5_weight_Jx4a65c_size_8abf5 : GoodIn wsX5_weight wsJx4a65c_size_8abf5 := goodIn_r _ [14, 15, 52, 53, 54] (by decide +kernel) (by decide +kernel)
set_option maxRecDepth 20000 in
theorem gX5_weight_Jx4a65c_size_8abf5 : GoodIn wsX5_weight (wsV RX5 50 RJx4a65c yJx4a65c_size_8abf5 wsJx4a65c_size_8abf5) := goodIn_app (goodIn_of _ (by decide +kernel)) ggX5_weight_Jx4a65c_size_8abf5
set_option maxRecDepth 20000 in
theorem ggX5_weight_X5_contains : GoodIn wsX5_weight wsX5_contains := goodIn_r _ [18] (by decide +kernel) (by decide +kernel)
set_option maxRecDepth 20000 in
theorem gX5_weight_X5_contains : GoodIn wsX5_weight (va_wsS RX5 98 yX5_contains wsX5_contains) := goodIn_app (goodIn_of _ (by decide +kernel)) ggX5_weight_X5_contains
set_option maxRecDepth 20000 in
theorem ggX5_weight_Jx4a65c_get_915e3 : GoodIn wsX5_weight wsJx4a65c_get_915e3 := goodIn_r _ [22, 15, 23, 24, 25, 26, 27, 28, 29, 30, 31, 32, 33, 13, 34, 35, 52, 53, 54] (by decide +kernel) (by decide +kernel)
set_option maxRecDepth 20000 in
theorem gX5_weight_Jx4a65c_get_915e3 : GoodIn wsX5_weight (wsV RX5 191 RJx4a65c yJx4a65c_get_915e3 wsJx4a65c_get_915e3) := goodIn_app (goodIn_of _ (by decide +kernel)) ggX5_weight_Jx4a65c_get_915e3
set_option maxRecDepth 20000 in
theorem ggX5_weight_X2_worth : GoodIn wsX5_weight wsX2_worth := goodIn_r _ [40, 41, 42, 43, 44, 55, 56, 57, 58, 59, 60, 61, 62, 63, 64, 65, 66, 67, 68, 69] (by decide +kernel) (by decide +kernel)
set_option maxRecDepth 20000 in
theorem gX5_weight_X2_worth : GoodIn wsX5_weight (wsV RX5 151 RX2 yX2_worth wsX2_worth) := goodIn_app (goodIn_of _ (by decide +kernel)) ggX5_weight_X2_worth
theorem dX5_weight_0 : decode cX5_weight 0 = .ok (.aload_n 0, 1) := by decide +kernel
theorem dX5_weight_1 : decode cX5_weight 1 = .ok (.iload_n 1, 1) := by decide +kernel
theorem dX5_weight_2 : decode cX5_weight 2 = .ok (.invokevirtual 187, 3) := by decide +kernel
theorem dX5_weight_5 : decode cX5_weight 5 = .ok (.iconst 0, 1) := by decide +kernel
theorem dX5_weight_6 : decode cX5_weight 6 = .ok (.istore_n 2, 1) := by decide +kernel
theorem dX5_weight_7 : decode cX5_weight 7 = .ok (.iconst 0, 1) := by decide +kernel
theorem dX5_weight_8 : decode cX5_weight 8 = .ok (.istore_n 3, 1) := by decide +kernel
theorem dX5_weight_9 : decode cX5_weight 9 = .ok (.iload_n 3, 1) := by decide +kernel
theorem dX5_weight_10 : decode cX5_weight 10 = .ok (.aload_n 0, 1) := by decide +kernel
theorem dX5_weight_11 : decode cX5_weight 11 = .ok (.getfield 19, 3) := by decide +kernel
theorem dX5_weight_14 : decode cX5_weight 14 = .ok (.invokevirtual 50, 3) := by decide +kernel
theorem dX5_weight_17 : decode cX5_weight 17 = .ok (.if_icmp .ge 34, 3) := by decide +kernel
theorem dX5_weight_20 : decode cX5_weight 20 = .ok (.iload_n 1, 1) := by decide +kernel
theorem dX5_weight_21 : decode cX5_weight 21 = .ok (.iload_n 3, 1) := by decide +kernel
theorem dX5_weight_22 : decode cX5_weight 22 = .ok (.invokestatic 98, 3) := by decide +kernel
theorem dX5_weight_25 : decode cX5_weight 25 = .ok (.ifCond .eq 20, 3) := by decide +kernel
theorem dX5_weight_28 : decode cX5_weight 28 = .ok (.iload_n 2, 1) := by decide +kernel
theorem dX5_weight_29 : decode cX5_weight 29 = .ok (.aload_n 0, 1) := by decide +kernel
theorem dX5_weight_30 : decode cX5_weight 30 = .ok (.getfield 19, 3) := by decide +kernel
theorem dX5_weight_33 : decode cX5_weight 33 = .ok (.iload_n 3, 1) := by decide +kernel
theorem dX5_weight_34 : decode cX5_weight 34 = .ok (.invokevirtual 191, 3) := by decide +kernel
theorem dX5_weight_37 : decode cX5_weight 37 = .ok (.checkcast 106, 3) := by decide +kernel
theorem dX5_weight_40 : decode cX5_weight 40 = .ok (.invokevirtual 151, 3) := by decide +kernel
theorem dX5_weight_43 : decode cX5_weight 43 = .ok (.iadd, 1) := by decide +kernel
theorem dX5_weight_44 : decode cX5_weight 44 = .ok (.istore_n 2, 1) := by decide +kernel
theorem dX5_weight_45 : decode cX5_weight 45 = .ok (.iinc 3 1, 3) := by decide +kernel
theorem dX5_weight_48 : decode cX5_weight 48 = .ok (.goto (-39), 3) := by decide +kernel
theorem dX5_weight_51 : decode cX5_weight 51 = .ok (.iload_n 2, 1) := by decide +kernel
theorem dX5_weight_52 : decode cX5_weight 52 = .ok (.ireturn, 1) := by decide +kernel
set_option maxRecDepth 20000 in
theorem ggX5_take_X5_checkSet : GoodIn wsX5_take wsX5_checkSet := goodIn_ca (goodIn_r _ [10, 11, 12, 3, 13, 14, 15, 16, 17, 18, 91, 92, 93, 94, 95, 96, 97, 105, 106, 107] (by decide +kernel) (by decide +kernel)) (goodIn_sub (fun _ h => List.mem_cons_of_mem _ (List.mem_append_right _ h)) (by decide +kernel))
set_option maxRecDepth 20000 in
theorem gX5_take_X5_checkSet : GoodIn wsX5_take (wsV RX5 187 RX5 yX5_checkSet wsX5_checkSet) := goodIn_app (goodIn_of _ (by decide +kernel)) ggX5_take_X5_checkSet
set_option maxRecDepth 20000 in
theorem ggX5_take_X5_areFreeTogether : GoodIn wsX5_take wsX5_areFreeTogether := goodIn_r _ [22, 3, 4, 13, 14, 15, 16, 17, 18, 23, 24, 9, 25, 26, 27, 28, 29, 30, 31, 32, 33, 34, 35, 36, 37, 38, 39, 40, 41, 42, 43, 44, 45, 46, 5, 47, 48, 49, 50, 51, 52, 53, 54, 55, 56, 57, 58, 59, 60, 61, 62, 63, 64, 65, 66, 67, 68, 69, 70, 71, 72, 73, 74, 75, 76, 77, 78, 79, 80, 81, 82, 83, 84, 85, 86, 91, 92, 93, 94, 95, 96, 97, 105, 106, 107, 98, 99, 100, 101, 102, 103, 104, 108, 109, 110, 111, 112] (by decide +kernel) (by decide +kernel)
set_option maxRecDepth 20000 in
theorem gX5_take_X5_areFreeTogether : GoodIn wsX5_take (wsV RX5 195 RX5 yX5_areFreeTogether wsX5_areFreeTogether) := goodIn_app (goodIn_of _ (by decide +kernel)) ggX5_take_X5_areFreeTogether
set_option maxRecDepth 20000 in
theorem ggX5_take_Jx4a65c_size_8abf5 : GoodIn wsX5_take wsJx4a65c_size_8abf5 := goodIn_r _ [17, 18, 105, 106, 107] (by decide +kernel) (by decide +kernel)
set_option maxRecDepth 20000 in
theorem gX5_take_Jx4a65c_size_8abf5 : GoodIn wsX5_take (wsV RX5 50 RJx4a65c yJx4a65c_size_8abf5 wsJx4a65c_size_8abf5) := goodIn_app (goodIn_of _ (by decide +kernel)) ggX5_take_Jx4a65c_size_8abf5
set_option maxRecDepth 20000 in
theorem ggX5_take_X5_contains : GoodIn wsX5_take wsX5_contains := goodIn_r _ [25] (by decide +kernel) (by decide +kernel)
set_option maxRecDepth 20000 in
theorem gX5_take_X5_contains : GoodIn wsX5_take (va_wsS RX5 98 yX5_contains wsX5_contains) := goodIn_app (goodIn_of _ (by decide +kernel)) ggX5_take_X5_contains
set_option maxRecDepth 20000 in
theorem ggX5_take_Jx4a65c_get_915e3 : GoodIn wsX5_take wsJx4a65c_get_915e3 := goodIn_r _ [29, 18, 30, 31, 32, 33, 34, 35, 36, 37, 38, 39, 40, 16, 41, 42, 105, 106, 107] (by decide +kernel) (by decide +kernel)
set_option maxRecDepth 20000 in
theorem gX5_take_Jx4a65c_get_915e3 : GoodIn wsX5_take (wsV RX5 191 RJx4a65c yJx4a65c_get_915e3 wsJx4a65c_get_915e3) := goodIn_app (goodIn_of _ (by decide +kernel)) ggX5_take_Jx4a65c_get_915e3
set_option maxRecDepth 20000 in
theorem ggX5_take_X5_takenSet : GoodIn wsX5_take wsX5_takenSet := goodIn_r _ [90, 3, 4, 5, 13, 14, 15, 16, 17, 18, 26, 27, 28, 29, 30, 31, 32, 33, 34, 35, 36, 37, 38, 39, 40, 41, 42, 91, 92, 93, 94, 95, 96, 97, 98, 99, 100, 101, 102, 103, 104, 105, 106, 107] (by decide +kernel) (by decide +kernel)
set_option maxRecDepth 20000 in
theorem gX5_take_X5_takenSet : GoodIn wsX5_take (wsV RX5 201 RX5 yX5_takenSet wsX5_takenSet) := goodIn_app (goodIn_of _ (by decide +kernel)) ggX5_take_X5_takenSet
theorem dX5_take_0 : decode cX5_take 0 = .ok (.aload_n 0, 1) := by decide +kernel
theorem dX5_take_1 : decode cX5_take 1 = .ok (.iload_n 1, 1) := by decide +kernel
theorem dX5_take_2 : decode cX5_take 2 = .ok (.invokevirtual 187, 3) := by decide +kernel
theorem dX5_take_5 : decode cX5_take 5 = .ok (.aload_n 0, 1) := by decide +kernel
theorem dX5_take_6 : decode cX5_take 6 = .ok (.iload_n 1, 1) := by decide +kernel
theorem dX5_take_7 : decode cX5_take 7 = .ok (.invokevirtual 195, 3) := by decide +kernel
theorem dX5_take_10 : decode cX5_take 10 = .ok (.ifCond .ne 13, 3) := by decide +kernel
theorem dX5_take_13 : decode cX5_take 13 = .ok (.new 54, 3) := by decide +kernel
theorem dX5_take_16 : decode cX5_take 16 = .ok (.dup, 1) := by decide +kernel
theorem dX5_take_17 : decode cX5_take 17 = .ok (.ldc 199, 2) := by decide +kernel
theorem dX5_take_19 : decode cX5_take 19 = .ok (.invokespecial 58, 3) := by decide +kernel
theorem dX5_take_22 : decode cX5_take 22 = .ok (.athrow, 1) := by decide +kernel
theorem dX5_take_23 : decode cX5_take 23 = .ok (.iconst 0, 1) := by decide +kernel
theorem dX5_take_24 : decode cX5_take 24 = .ok (.istore_n 2, 1) := by decide +kernel
theorem dX5_take_25 : decode cX5_take 25 = .ok (.iload_n 2, 1) := by decide +kernel
theorem dX5_take_26 : decode cX5_take 26 = .ok (.aload_n 0, 1) := by decide +kernel
theorem dX5_take_27 : decode cX5_take 27 = .ok (.getfield 19, 3) := by decide +kernel
theorem dX5_take_30 : decode cX5_take 30 = .ok (.invokevirtual 50, 3) := by decide +kernel
theorem dX5_take_33 : decode cX5_take 33 = .ok (.if_icmp .ge 32, 3) := by decide +kernel
theorem dX5_take_36 : decode cX5_take 36 = .ok (.iload_n 1, 1) := by decide +kernel
theorem dX5_take_37 : decode cX5_take 37 = .ok (.iload_n 2, 1) := by decide +kernel
theorem dX5_take_38 : decode cX5_take 38 = .ok (.invokestatic 98, 3) := by decide +kernel
theorem dX5_take_41 : decode cX5_take 41 = .ok (.ifCond .eq 18, 3) := by decide +kernel
theorem dX5_take_44 : decode cX5_take 44 = .ok (.aload_n 0, 1) := by decide +kernel
theorem dX5_take_45 : decode cX5_take 45 = .ok (.getfield 19, 3) := by decide +kernel
theorem dX5_take_48 : decode cX5_take 48 = .ok (.iload_n 2, 1) := by decide +kernel
theorem dX5_take_49 : decode cX5_take 49 = .ok (.invokevirtual 191, 3) := by decide +kernel
theorem dX5_take_52 : decode cX5_take 52 = .ok (.checkcast 106, 3) := by decide +kernel
theorem dX5_take_55 : decode cX5_take 55 = .ok (.iconst 1, 1) := by decide +kernel
theorem dX5_take_56 : decode cX5_take 56 = .ok (.putfield 154, 3) := by decide +kernel
theorem dX5_take_59 : decode cX5_take 59 = .ok (.iinc 2 1, 3) := by decide +kernel
theorem dX5_take_62 : decode cX5_take 62 = .ok (.goto (-37), 3) := by decide +kernel
theorem dX5_take_65 : decode cX5_take 65 = .ok (.aload_n 0, 1) := by decide +kernel
theorem dX5_take_66 : decode cX5_take 66 = .ok (.invokevirtual 201, 3) := by decide +kernel
theorem dX5_take_69 : decode cX5_take 69 = .ok (.ireturn, 1) := by decide +kernel
set_option maxRecDepth 20000 in
theorem ggX5_giveUp_X5_passAt : GoodIn wsX5_giveUp wsX5_passAt := goodIn_ca (goodIn_r _ [10, 11, 12, 13, 14, 15, 16, 17, 18, 19, 20, 21, 22, 23, 24, 25, 26, 27, 28, 29, 30, 31, 32, 33, 34, 35, 36, 37, 49, 50, 51, 52, 53, 54, 55, 56, 57, 58] (by decide +kernel) (by decide +kernel)) (goodIn_sub (fun _ h => List.mem_cons_of_mem _ (List.mem_append_right _ h)) (by decide +kernel))
set_option maxRecDepth 20000 in
theorem gX5_giveUp_X5_passAt : GoodIn wsX5_giveUp (wsV RX5 129 RX5 yX5_passAt wsX5_passAt) := goodIn_app (goodIn_of _ (by decide +kernel)) ggX5_giveUp_X5_passAt
set_option maxRecDepth 20000 in
theorem ggX5_giveUp_X5_takenSet : GoodIn wsX5_giveUp wsX5_takenSet := goodIn_r _ [41, 13, 14, 3, 15, 16, 17, 18, 19, 20, 21, 22, 23, 24, 25, 26, 27, 28, 29, 30, 31, 32, 33, 34, 35, 36, 37, 49, 50, 51, 52, 53, 54, 55, 42, 43, 44, 45, 46, 47, 48, 56, 57, 58] (by decide +kernel) (by decide +kernel)
set_option maxRecDepth 20000 in
theorem gX5_giveUp_X5_takenSet : GoodIn wsX5_giveUp (wsV RX5 201 RX5 yX5_takenSet wsX5_takenSet) := goodIn_app (goodIn_of _ (by decide +kernel)) ggX5_giveUp_X5_takenSet
theorem dX5_giveUp_0 : decode cX5_giveUp 0 = .ok (.aload_n 0, 1) := by decide +kernel
theorem dX5_giveUp_1 : decode cX5_giveUp 1 = .ok (.iload_n 1, 1) := by decide +kernel
theorem dX5_giveUp_2 : decode cX5_giveUp 2 = .ok (.invokevirtual 129, 3) := by decide +kernel
theorem dX5_giveUp_5 : decode cX5_giveUp 5 = .ok (.astore_n 2, 1) := by decide +kernel
theorem dX5_giveUp_6 : decode cX5_giveUp 6 = .ok (.aload_n 2, 1) := by decide +kernel
theorem dX5_giveUp_7 : decode cX5_giveUp 7 = .ok (.getfield 154, 3) := by decide +kernel
theorem dX5_giveUp_10 : decode cX5_giveUp 10 = .ok (.ifCond .eq 14, 3) := by decide +kernel
theorem dX5_giveUp_13 : decode cX5_giveUp 13 = .ok (.aload_n 2, 1) := by decide +kernel
theorem dX5_giveUp_14 : decode cX5_giveUp 14 = .ok (.getfield 145, 3) := by decide +kernel
theorem dX5_giveUp_17 : decode cX5_giveUp 17 = .ok (.aload_n 0, 1) := by decide +kernel
theorem dX5_giveUp_18 : decode cX5_giveUp 18 = .ok (.getfield 32, 3) := by decide +kernel
theorem dX5_giveUp_21 : decode cX5_giveUp 21 = .ok (.if_icmp .ge 13, 3) := by decide +kernel
theorem dX5_giveUp_24 : decode cX5_giveUp 24 = .ok (.new 54, 3) := by decide +kernel
theorem dX5_giveUp_27 : decode cX5_giveUp 27 = .ok (.dup, 1) := by decide +kernel
theorem dX5_giveUp_28 : decode cX5_giveUp 28 = .ok (.ldc 204, 2) := by decide +kernel
theorem dX5_giveUp_30 : decode cX5_giveUp 30 = .ok (.invokespecial 58, 3) := by decide +kernel
theorem dX5_giveUp_33 : decode cX5_giveUp 33 = .ok (.athrow, 1) := by decide +kernel
theorem dX5_giveUp_34 : decode cX5_giveUp 34 = .ok (.aload_n 2, 1) := by decide +kernel
theorem dX5_giveUp_35 : decode cX5_giveUp 35 = .ok (.iconst 0, 1) := by decide +kernel
theorem dX5_giveUp_36 : decode cX5_giveUp 36 = .ok (.putfield 154, 3) := by decide +kernel
theorem dX5_giveUp_39 : decode cX5_giveUp 39 = .ok (.aload_n 0, 1) := by decide +kernel
theorem dX5_giveUp_40 : decode cX5_giveUp 40 = .ok (.invokevirtual 201, 3) := by decide +kernel
theorem dX5_giveUp_43 : decode cX5_giveUp 43 = .ok (.ireturn, 1) := by decide +kernel
set_option maxRecDepth 20000 in
theorem ggX5_taken_X5_takenSet : GoodIn wsX5_taken wsX5_takenSet := goodIn_r _ [5, 6, 7, 8, 9, 10, 11, 12, 13, 14, 15, 16, 17, 18, 19, 20, 21, 22, 23, 24, 25, 26, 27, 28, 29, 30, 31, 32, 33, 34, 35, 36, 37, 38, 39, 40, 41, 42, 43, 44, 45, 46, 47, 48] (by decide +kernel) (by decide +kernel)
set_option maxRecDepth 20000 in
theorem gX5_taken_X5_takenSet : GoodIn wsX5_taken (wsV RX5 201 RX5 yX5_takenSet wsX5_takenSet) := goodIn_app (goodIn_of _ (by decide +kernel)) ggX5_taken_X5_takenSet
theorem dX5_taken_0 : decode cX5_taken 0 = .ok (.aload_n 0, 1) := by decide +kernel
theorem dX5_taken_1 : decode cX5_taken 1 = .ok (.invokevirtual 201, 3) := by decide +kernel
theorem dX5_taken_4 : decode cX5_taken 4 = .ok (.ireturn, 1) := by decide +kernel
set_option maxRecDepth 20000 in
theorem ggX5_run_X5_isWithin : GoodIn wsX5_run wsX5_isWithin := goodIn_r _ [9] (by decide +kernel) (by decide +kernel)
set_option maxRecDepth 20000 in
theorem gX5_run_X5_isWithin : GoodIn wsX5_run (va_wsS RX5 39 yX5_isWithin wsX5_isWithin) := goodIn_app (goodIn_of _ (by decide +kernel)) ggX5_run_X5_isWithin
set_option maxRecDepth 20000 in
theorem ggX5_run_X5_gatherEverywhere : GoodIn wsX5_run wsX5_gatherEverywhere := goodIn_r _ [13, 14, 15, 16, 17, 18, 19, 20, 21, 22, 23, 24, 25, 26, 27, 28, 29, 30, 31, 32, 33, 34, 35, 36, 37, 38, 39, 40, 41, 42, 43, 44, 45, 46, 47, 48, 49, 50, 51, 107, 108, 109, 110, 111, 112, 113, 114, 115, 116, 117, 118, 119, 120, 121, 122, 123, 124] (by decide +kernel) (by decide +kernel)
set_option maxRecDepth 20000 in
theorem gX5_run_X5_gatherEverywhere : GoodIn wsX5_run (wsV RX5 210 RX5 yX5_gatherEverywhere wsX5_gatherEverywhere) := goodIn_app (goodIn_of _ (by decide +kernel)) ggX5_run_X5_gatherEverywhere
set_option maxRecDepth 20000 in
theorem ggX5_run_X5_bringDownEverywhere : GoodIn wsX5_run wsX5_bringDownEverywhere := goodIn_r _ [55, 56, 57, 58, 5, 16, 17, 18, 19, 20, 21, 22, 23, 24, 25, 26, 27, 28, 29, 30, 31, 32, 33, 34, 35, 36, 37, 38, 59, 60, 61, 8, 62, 63, 64, 65, 66, 67, 68, 69, 70, 71, 72, 49, 73, 74, 75, 76, 77, 78, 79, 80, 81, 82, 83, 84, 85, 86, 87, 88, 89, 90, 91, 92, 93, 94, 95, 96, 97, 98, 99, 100, 101, 102, 103, 48, 50, 104, 105, 106, 107, 108, 109, 110, 111, 112, 113, 125, 126, 127, 128, 129, 130, 131, 114, 115, 116, 132, 133, 134, 135, 136, 117, 118, 119, 120, 121, 122, 123, 124] (by decide +kernel) (by decide +kernel)
set_option maxRecDepth 20000 in
theorem gX5_run_X5_bringDownEverywhere : GoodIn wsX5_run (wsV RX5 213 RX5 yX5_bringDownEverywhere wsX5_bringDownEverywhere) := goodIn_app (goodIn_of _ (by decide +kernel)) ggX5_run_X5_bringDownEverywhere
theorem dX5_run_0 : decode cX5_run 0 = .ok (.iload_n 1, 1) := by decide +kernel
theorem dX5_run_1 : decode cX5_run 1 = .ok (.iconst 1, 1) := by decide +kernel
theorem dX5_run_2 : decode cX5_run 2 = .ok (.sipush 500, 3) := by decide +kernel
theorem dX5_run_5 : decode cX5_run 5 = .ok (.invokestatic 39, 3) := by decide +kernel
theorem dX5_run_8 : decode cX5_run 8 = .ok (.ifCond .ne 13, 3) := by decide +kernel
theorem dX5_run_11 : decode cX5_run 11 = .ok (.new 43, 3) := by decide +kernel
theorem dX5_run_14 : decode cX5_run 14 = .ok (.dup, 1) := by decide +kernel
theorem dX5_run_15 : decode cX5_run 15 = .ok (.ldc 206, 2) := by decide +kernel
theorem dX5_run_17 : decode cX5_run 17 = .ok (.invokespecial 47, 3) := by decide +kernel
theorem dX5_run_20 : decode cX5_run 20 = .ok (.athrow, 1) := by decide +kernel
theorem dX5_run_21 : decode cX5_run 21 = .ok (.aload_n 0, 1) := by decide +kernel
theorem dX5_run_22 : decode cX5_run 22 = .ok (.getfield 32, 3) := by decide +kernel
theorem dX5_run_25 : decode cX5_run 25 = .ok (.iload_n 1, 1) := by decide +kernel
theorem dX5_run_26 : decode cX5_run 26 = .ok (.iadd, 1) := by decide +kernel
theorem dX5_run_27 : decode cX5_run 27 = .ok (.sipush 9999, 3) := by decide +kernel
theorem dX5_run_30 : decode cX5_run 30 = .ok (.if_icmp .le 13, 3) := by decide +kernel
theorem dX5_run_33 : decode cX5_run 33 = .ok (.new 54, 3) := by decide +kernel
theorem dX5_run_36 : decode cX5_run 36 = .ok (.dup, 1) := by decide +kernel
theorem dX5_run_37 : decode cX5_run 37 = .ok (.ldc 208, 2) := by decide +kernel
theorem dX5_run_39 : decode cX5_run 39 = .ok (.invokespecial 58, 3) := by decide +kernel
theorem dX5_run_42 : decode cX5_run 42 = .ok (.athrow, 1) := by decide +kernel
theorem dX5_run_43 : decode cX5_run 43 = .ok (.iconst 0, 1) := by decide +kernel
theorem dX5_run_44 : decode cX5_run 44 = .ok (.istore_n 2, 1) := by decide +kernel
theorem dX5_run_45 : decode cX5_run 45 = .ok (.iconst 0, 1) := by decide +kernel
theorem dX5_run_46 : decode cX5_run 46 = .ok (.istore_n 3, 1) := by decide +kernel
theorem dX5_run_47 : decode cX5_run 47 = .ok (.iload_n 3, 1) := by decide +kernel
theorem dX5_run_48 : decode cX5_run 48 = .ok (.iload_n 1, 1) := by decide +kernel
theorem dX5_run_49 : decode cX5_run 49 = .ok (.if_icmp .ge 30, 3) := by decide +kernel
theorem dX5_run_52 : decode cX5_run 52 = .ok (.aload_n 0, 1) := by decide +kernel
theorem dX5_run_53 : decode cX5_run 53 = .ok (.invokevirtual 210, 3) := by decide +kernel
theorem dX5_run_56 : decode cX5_run 56 = .ok (.iload_n 2, 1) := by decide +kernel
theorem dX5_run_57 : decode cX5_run 57 = .ok (.aload_n 0, 1) := by decide +kernel
theorem dX5_run_58 : decode cX5_run 58 = .ok (.invokevirtual 213, 3) := by decide +kernel
theorem dX5_run_61 : decode cX5_run 61 = .ok (.iadd, 1) := by decide +kernel
theorem dX5_run_62 : decode cX5_run 62 = .ok (.istore_n 2, 1) := by decide +kernel
theorem dX5_run_63 : decode cX5_run 63 = .ok (.aload_n 0, 1) := by decide +kernel
theorem dX5_run_64 : decode cX5_run 64 = .ok (.dup, 1) := by decide +kernel
theorem dX5_run_65 : decode cX5_run 65 = .ok (.getfield 32, 3) := by decide +kernel
theorem dX5_run_68 : decode cX5_run 68 = .ok (.iconst 1, 1) := by decide +kernel
theorem dX5_run_69 : decode cX5_run 69 = .ok (.iadd, 1) := by decide +kernel
theorem dX5_run_70 : decode cX5_run 70 = .ok (.putfield 32, 3) := by decide +kernel
theorem dX5_run_73 : decode cX5_run 73 = .ok (.iinc 3 1, 3) := by decide +kernel
theorem dX5_run_76 : decode cX5_run 76 = .ok (.goto (-29), 3) := by decide +kernel
theorem dX5_run_79 : decode cX5_run 79 = .ok (.iload_n 2, 1) := by decide +kernel
theorem dX5_run_80 : decode cX5_run 80 = .ok (.ireturn, 1) := by decide +kernel
theorem dX5_isWithin_0 : decode cX5_isWithin 0 = .ok (.iload_n 0, 1) := by decide +kernel
theorem dX5_isWithin_1 : decode cX5_isWithin 1 = .ok (.iload_n 1, 1) := by decide +kernel
theorem dX5_isWithin_2 : decode cX5_isWithin 2 = .ok (.if_icmp .lt 12, 3) := by decide +kernel
theorem dX5_isWithin_5 : decode cX5_isWithin 5 = .ok (.iload_n 0, 1) := by decide +kernel
theorem dX5_isWithin_6 : decode cX5_isWithin 6 = .ok (.iload_n 2, 1) := by decide +kernel
theorem dX5_isWithin_7 : decode cX5_isWithin 7 = .ok (.if_icmp .gt 7, 3) := by decide +kernel
theorem dX5_isWithin_10 : decode cX5_isWithin 10 = .ok (.iconst 1, 1) := by decide +kernel
theorem dX5_isWithin_11 : decode cX5_isWithin 11 = .ok (.goto 4, 3) := by decide +kernel
theorem dX5_isWithin_14 : decode cX5_isWithin 14 = .ok (.iconst 0, 1) := by decide +kernel
theorem dX5_isWithin_15 : decode cX5_isWithin 15 = .ok (.ireturn, 1) := by decide +kernel
theorem dX5_contains_0 : decode cX5_contains 0 = .ok (.iload_n 0, 1) := by decide +kernel
theorem dX5_contains_1 : decode cX5_contains 1 = .ok (.iconst 1, 1) := by decide +kernel
theorem dX5_contains_2 : decode cX5_contains 2 = .ok (.iload_n 1, 1) := by decide +kernel
theorem dX5_contains_3 : decode cX5_contains 3 = .ok (.ishl, 1) := by decide +kernel
theorem dX5_contains_4 : decode cX5_contains 4 = .ok (.iand, 1) := by decide +kernel
theorem dX5_contains_5 : decode cX5_contains 5 = .ok (.ifCond .eq 7, 3) := by decide +kernel
theorem dX5_contains_8 : decode cX5_contains 8 = .ok (.iconst 1, 1) := by decide +kernel
theorem dX5_contains_9 : decode cX5_contains 9 = .ok (.goto 4, 3) := by decide +kernel
theorem dX5_contains_12 : decode cX5_contains 12 = .ok (.iconst 0, 1) := by decide +kernel
theorem dX5_contains_13 : decode cX5_contains 13 = .ok (.ireturn, 1) := by decide +kernel
theorem dX5_checkSpan_0 : decode cX5_checkSpan 0 = .ok (.iload_n 1, 1) := by decide +kernel
theorem dX5_checkSpan_1 : decode cX5_checkSpan 1 = .ok (.aload_n 0, 1) := by decide +kernel
theorem dX5_checkSpan_2 : decode cX5_checkSpan 2 = .ok (.getfield 32, 3) := by decide +kernel
theorem dX5_checkSpan_5 : decode cX5_checkSpan 5 = .ok (.if_icmp .lt 15, 3) := by decide +kernel
theorem dX5_checkSpan_8 : decode cX5_checkSpan 8 = .ok (.iload_n 2, 1) := by decide +kernel
theorem dX5_checkSpan_9 : decode cX5_checkSpan 9 = .ok (.iload_n 1, 1) := by decide +kernel
theorem dX5_checkSpan_10 : decode cX5_checkSpan 10 = .ok (.if_icmp .le 10, 3) := by decide +kernel
theorem dX5_checkSpan_13 : decode cX5_checkSpan 13 = .ok (.iload_n 2, 1) := by decide +kernel
theorem dX5_checkSpan_14 : decode cX5_checkSpan 14 = .ok (.sipush 9999, 3) := by decide +kernel
theorem dX5_checkSpan_17 : decode cX5_checkSpan 17 = .ok (.if_icmp .le 14, 3) := by decide +kernel
theorem dX5_checkSpan_20 : decode cX5_checkSpan 20 = .ok (.new 43, 3) := by decide +kernel
theorem dX5_checkSpan_23 : decode cX5_checkSpan 23 = .ok (.dup, 1) := by decide +kernel
theorem dX5_checkSpan_24 : decode cX5_checkSpan 24 = .ok (.ldc_w 260, 3) := by decide +kernel
theorem dX5_checkSpan_27 : decode cX5_checkSpan 27 = .ok (.invokespecial 47, 3) := by decide +kernel
theorem dX5_checkSpan_30 : decode cX5_checkSpan 30 = .ok (.athrow, 1) := by decide +kernel
theorem dX5_checkSpan_31 : decode cX5_checkSpan 31 = .ok (.return_, 1) := by decide +kernel
set_option maxRecDepth 20000 in
theorem ggX5_checkSet_Jx4a65c_size_8abf5 : GoodIn wsX5_checkSet wsJx4a65c_size_8abf5 := goodIn_r _ [8, 9, 17, 18, 19] (by decide +kernel) (by decide +kernel)
set_option maxRecDepth 20000 in
theorem gX5_checkSet_Jx4a65c_size_8abf5 : GoodIn wsX5_checkSet (wsV RX5 50 RJx4a65c yJx4a65c_size_8abf5 wsJx4a65c_size_8abf5) := goodIn_app (goodIn_of _ (by decide +kernel)) ggX5_checkSet_Jx4a65c_size_8abf5
theorem dX5_checkSet_0 : decode cX5_checkSet 0 = .ok (.iload_n 1, 1) := by decide +kernel
theorem dX5_checkSet_1 : decode cX5_checkSet 1 = .ok (.aload_n 0, 1) := by decide +kernel
theorem dX5_checkSet_2 : decode cX5_checkSet 2 = .ok (.getfield 19, 3) := by decide +kernel
theorem dX5_checkSet_5 : decode cX5_checkSet 5 = .ok (.invokevirtual 50, 3) := by decide +kernel
theorem dX5_checkSet_8 : decode cX5_checkSet 8 = .ok (.iushr, 1) := by decide +kernel
theorem dX5_checkSet_9 : decode cX5_checkSet 9 = .ok (.ifCond .eq 14, 3) := by decide +kernel
theorem dX5_checkSet_12 : decode cX5_checkSet 12 = .ok (.new 43, 3) := by decide +kernel
theorem dX5_checkSet_15 : decode cX5_checkSet 15 = .ok (.dup, 1) := by decide +kernel
theorem dX5_checkSet_16 : decode cX5_checkSet 16 = .ok (.ldc_w 262, 3) := by decide +kernel
theorem dX5_checkSet_19 : decode cX5_checkSet 19 = .ok (.invokespecial 47, 3) := by decide +kernel
theorem dX5_checkSet_22 : decode cX5_checkSet 22 = .ok (.athrow, 1) := by decide +kernel
theorem dX5_checkSet_23 : decode cX5_checkSet 23 = .ok (.return_, 1) := by decide +kernel
set_option maxRecDepth 20000 in
theorem ggX5_antennaAt_Jx4a65c_size_8abf5 : GoodIn wsX5_antennaAt wsJx4a65c_size_8abf5 := goodIn_r _ [9, 10, 35, 36, 37] (by decide +kernel) (by decide +kernel)
set_option maxRecDepth 20000 in
theorem gX5_antennaAt_Jx4a65c_size_8abf5 : GoodIn wsX5_antennaAt (wsV RX5 50 RJx4a65c yJx4a65c_size_8abf5 wsJx4a65c_size_8abf5) := goodIn_app (goodIn_of _ (by decide +kernel)) ggX5_antennaAt_Jx4a65c_size_8abf5
set_option maxRecDepth 20000 in
theorem ggX5_antennaAt_Jx4a65c_get_915e3 : GoodIn wsX5_antennaAt wsJx4a65c_get_915e3 := goodIn_r _ [14, 10, 15, 16, 17, 18, 19, 20, 21, 22, 23, 24, 25, 8, 26, 27, 35, 36, 37] (by decide +kernel) (by decide +kernel)
set_option maxRecDepth 20000 in
theorem gX5_antennaAt_Jx4a65c_get_915e3 : GoodIn wsX5_antennaAt (wsV RX5 191 RJx4a65c yJx4a65c_get_915e3 wsJx4a65c_get_915e3) := goodIn_app (goodIn_of _ (by decide +kernel)) ggX5_antennaAt_Jx4a65c_get_915e3
theorem dX5_antennaAt_0 : decode cX5_antennaAt 0 = .ok (.iload_n 1, 1) := by decide +kernel
theorem dX5_antennaAt_1 : decode cX5_antennaAt 1 = .ok (.ifCond .lt 14, 3) := by decide +kernel
theorem dX5_antennaAt_4 : decode cX5_antennaAt 4 = .ok (.iload_n 1, 1) := by decide +kernel
theorem dX5_antennaAt_5 : decode cX5_antennaAt 5 = .ok (.aload_n 0, 1) := by decide +kernel
theorem dX5_antennaAt_6 : decode cX5_antennaAt 6 = .ok (.getfield 10, 3) := by decide +kernel
theorem dX5_antennaAt_9 : decode cX5_antennaAt 9 = .ok (.invokevirtual 50, 3) := by decide +kernel
theorem dX5_antennaAt_12 : decode cX5_antennaAt 12 = .ok (.if_icmp .lt 14, 3) := by decide +kernel
theorem dX5_antennaAt_15 : decode cX5_antennaAt 15 = .ok (.new 124, 3) := by decide +kernel
theorem dX5_antennaAt_18 : decode cX5_antennaAt 18 = .ok (.dup, 1) := by decide +kernel
theorem dX5_antennaAt_19 : decode cX5_antennaAt 19 = .ok (.ldc_w 264, 3) := by decide +kernel
theorem dX5_antennaAt_22 : decode cX5_antennaAt 22 = .ok (.invokespecial 128, 3) := by decide +kernel
theorem dX5_antennaAt_25 : decode cX5_antennaAt 25 = .ok (.athrow, 1) := by decide +kernel
theorem dX5_antennaAt_26 : decode cX5_antennaAt 26 = .ok (.aload_n 0, 1) := by decide +kernel
theorem dX5_antennaAt_27 : decode cX5_antennaAt 27 = .ok (.getfield 10, 3) := by decide +kernel
theorem dX5_antennaAt_30 : decode cX5_antennaAt 30 = .ok (.iload_n 1, 1) := by decide +kernel
theorem dX5_antennaAt_31 : decode cX5_antennaAt 31 = .ok (.invokevirtual 191, 3) := by decide +kernel
theorem dX5_antennaAt_34 : decode cX5_antennaAt 34 = .ok (.checkcast 59, 3) := by decide +kernel
theorem dX5_antennaAt_37 : decode cX5_antennaAt 37 = .ok (.areturn, 1) := by decide +kernel
set_option maxRecDepth 20000 in
theorem ggX5_satelliteAt_Jx4a65c_size_8abf5 : GoodIn wsX5_satelliteAt wsJx4a65c_size_8abf5 := goodIn_r _ [9, 10, 35, 36, 37] (by decide +kernel) (by decide +kernel)
set_option maxRecDepth 20000 in
theorem gX5_satelliteAt_Jx4a65c_size_8abf5 : GoodIn wsX5_satelliteAt (wsV RX5 50 RJx4a65c yJx4a65c_size_8abf5 wsJx4a65c_size_8abf5) := goodIn_app (goodIn_of _ (by decide +kernel)) ggX5_satelliteAt_Jx4a65c_size_8abf5
set_option maxRecDepth 20000 in
theorem ggX5_satelliteAt_Jx4a65c_get_915e3 : GoodIn wsX5_satelliteAt wsJx4a65c_get_915e3 := goodIn_r _ [14, 10, 15, 16, 17, 18, 19, 20, 21, 22, 23, 24, 25, 8, 26, 27, 35, 36, 37] (by decide +kernel) (by decide +kernel)
set_option maxRecDepth 20000 in
theorem gX5_satelliteAt_Jx4a65c_get_915e3 : GoodIn wsX5_satelliteAt (wsV RX5 191 RJx4a65c yJx4a65c_get_915e3 wsJx4a65c_get_915e3) := goodIn_app (goodIn_of _ (by decide +kernel)) ggX5_satelliteAt_Jx4a65c_get_915e3
theorem dX5_satelliteAt_0 : decode cX5_satelliteAt 0 = .ok (.iload_n 1, 1) := by decide +kernel
theorem dX5_satelliteAt_1 : decode cX5_satelliteAt 1 = .ok (.ifCond .lt 14, 3) := by decide +kernel
theorem dX5_satelliteAt_4 : decode cX5_satelliteAt 4 = .ok (.iload_n 1, 1) := by decide +kernel
theorem dX5_satelliteAt_5 : decode cX5_satelliteAt 5 = .ok (.aload_n 0, 1) := by decide +kernel
theorem dX5_satelliteAt_6 : decode cX5_satelliteAt 6 = .ok (.getfield 16, 3) := by decide +kernel
theorem dX5_satelliteAt_9 : decode cX5_satelliteAt 9 = .ok (.invokevirtual 50, 3) := by decide +kernel
theorem dX5_satelliteAt_12 : decode cX5_satelliteAt 12 = .ok (.if_icmp .lt 14, 3) := by decide +kernel
theorem dX5_satelliteAt_15 : decode cX5_satelliteAt 15 = .ok (.new 124, 3) := by decide +kernel
theorem dX5_satelliteAt_18 : decode cX5_satelliteAt 18 = .ok (.dup, 1) := by decide +kernel
theorem dX5_satelliteAt_19 : decode cX5_satelliteAt 19 = .ok (.ldc_w 266, 3) := by decide +kernel
theorem dX5_satelliteAt_22 : decode cX5_satelliteAt 22 = .ok (.invokespecial 128, 3) := by decide +kernel
theorem dX5_satelliteAt_25 : decode cX5_satelliteAt 25 = .ok (.athrow, 1) := by decide +kernel
theorem dX5_satelliteAt_26 : decode cX5_satelliteAt 26 = .ok (.aload_n 0, 1) := by decide +kernel
theorem dX5_satelliteAt_27 : decode cX5_satelliteAt 27 = .ok (.getfield 16, 3) := by decide +kernel
theorem dX5_satelliteAt_30 : decode cX5_satelliteAt 30 = .ok (.iload_n 1, 1) := by decide +kernel
theorem dX5_satelliteAt_31 : decode cX5_satelliteAt 31 = .ok (.invokevirtual 191, 3) := by decide +kernel
theorem dX5_satelliteAt_34 : decode cX5_satelliteAt 34 = .ok (.checkcast 73, 3) := by decide +kernel
theorem dX5_satelliteAt_37 : decode cX5_satelliteAt 37 = .ok (.areturn, 1) := by decide +kernel
set_option maxRecDepth 20000 in
theorem ggX5_passAt_Jx4a65c_size_8abf5 : GoodIn wsX5_passAt wsJx4a65c_size_8abf5 := goodIn_r _ [9, 10, 35, 36, 37] (by decide +kernel) (by decide +kernel)
set_option maxRecDepth 20000 in
theorem gX5_passAt_Jx4a65c_size_8abf5 : GoodIn wsX5_passAt (wsV RX5 50 RJx4a65c yJx4a65c_size_8abf5 wsJx4a65c_size_8abf5) := goodIn_app (goodIn_of _ (by decide +kernel)) ggX5_passAt_Jx4a65c_size_8abf5
set_option maxRecDepth 20000 in
theorem ggX5_passAt_Jx4a65c_get_915e3 : GoodIn wsX5_passAt wsJx4a65c_get_915e3 := goodIn_r _ [14, 10, 15, 16, 17, 18, 19, 20, 21, 22, 23, 24, 25, 8, 26, 27, 35, 36, 37] (by decide +kernel) (by decide +kernel)
set_option maxRecDepth 20000 in
theorem gX5_passAt_Jx4a65c_get_915e3 : GoodIn wsX5_passAt (wsV RX5 191 RJx4a65c yJx4a65c_get_915e3 wsJx4a65c_get_915e3) := goodIn_app (goodIn_of _ (by decide +kernel)) ggX5_passAt_Jx4a65c_get_915e3
theorem dX5_passAt_0 : decode cX5_passAt 0 = .ok (.iload_n 1, 1) := by decide +kernel
theorem dX5_passAt_1 : decode cX5_passAt 1 = .ok (.ifCond .lt 14, 3) := by decide +kernel
theorem dX5_passAt_4 : decode cX5_passAt 4 = .ok (.iload_n 1, 1) := by decide +kernel
theorem dX5_passAt_5 : decode cX5_passAt 5 = .ok (.aload_n 0, 1) := by decide +kernel
theorem dX5_passAt_6 : decode cX5_passAt 6 = .ok (.getfield 19, 3) := by decide +kernel
theorem dX5_passAt_9 : decode cX5_passAt 9 = .ok (.invokevirtual 50, 3) := by decide +kernel
theorem dX5_passAt_12 : decode cX5_passAt 12 = .ok (.if_icmp .lt 14, 3) := by decide +kernel
theorem dX5_passAt_15 : decode cX5_passAt 15 = .ok (.new 124, 3) := by decide +kernel
theorem dX5_passAt_18 : decode cX5_passAt 18 = .ok (.dup, 1) := by decide +kernel
theorem dX5_passAt_19 : decode cX5_passAt 19 = .ok (.ldc_w 268, 3) := by decide +kernel
theorem dX5_passAt_22 : decode cX5_passAt 22 = .ok (.invokespecial 128, 3) := by decide +kernel
theorem dX5_passAt_25 : decode cX5_passAt 25 = .ok (.athrow, 1) := by decide +kernel
theorem dX5_passAt_26 : decode cX5_passAt 26 = .ok (.aload_n 0, 1) := by decide +kernel
theorem dX5_passAt_27 : decode cX5_passAt 27 = .ok (.getfield 19, 3) := by decide +kernel
theorem dX5_passAt_30 : decode cX5_passAt 30 = .ok (.iload_n 1, 1) := by decide +kernel
theorem dX5_passAt_31 : decode cX5_passAt 31 = .ok (.invokevirtual 191, 3) := by decide +kernel
theorem dX5_passAt_34 : decode cX5_passAt 34 = .ok (.checkcast 106, 3) := by decide +kernel
theorem dX5_passAt_37 : decode cX5_passAt 37 = .ok (.areturn, 1) := by decide +kernel
set_option maxRecDepth 20000 in
theorem ggX5_areInConflict_X2_isEarlierThan : GoodIn wsX5_areInConflict wsX2_isEarlierThan := goodIn_r _ [11, 12, 13, 14, 15, 16, 17, 18, 19, 20] (by decide +kernel) (by decide +kernel)
set_option maxRecDepth 20000 in
theorem gX5_areInConflict_X2_isEarlierThan : GoodIn wsX5_areInConflict (wsV RX5 270 RX2 yX2_isEarlierThan wsX2_isEarlierThan) := goodIn_app (goodIn_of _ (by decide +kernel)) ggX5_areInConflict_X2_isEarlierThan
theorem dX5_areInConflict_0 : decode cX5_areInConflict 0 = .ok (.aload_n 1, 1) := by decide +kernel
theorem dX5_areInConflict_1 : decode cX5_areInConflict 1 = .ok (.aload_n 2, 1) := by decide +kernel
theorem dX5_areInConflict_2 : decode cX5_areInConflict 2 = .ok (.invokevirtual 270, 3) := by decide +kernel
theorem dX5_areInConflict_5 : decode cX5_areInConflict 5 = .ok (.ifCond .eq 7, 3) := by decide +kernel
theorem dX5_areInConflict_8 : decode cX5_areInConflict 8 = .ok (.aload_n 1, 1) := by decide +kernel
theorem dX5_areInConflict_9 : decode cX5_areInConflict 9 = .ok (.goto 4, 3) := by decide +kernel
theorem dX5_areInConflict_12 : decode cX5_areInConflict 12 = .ok (.aload_n 2, 1) := by decide +kernel
theorem dX5_areInConflict_13 : decode cX5_areInConflict 13 = .ok (.astore_n 3, 1) := by decide +kernel
theorem dX5_areInConflict_14 : decode cX5_areInConflict 14 = .ok (.aload_n 3, 1) := by decide +kernel
theorem dX5_areInConflict_15 : decode cX5_areInConflict 15 = .ok (.aload_n 1, 1) := by decide +kernel
theorem dX5_areInConflict_16 : decode cX5_areInConflict 16 = .ok (.if_acmp .ne 7, 3) := by decide +kernel
theorem dX5_areInConflict_19 : decode cX5_areInConflict 19 = .ok (.aload_n 2, 1) := by decide +kernel
theorem dX5_areInConflict_20 : decode cX5_areInConflict 20 = .ok (.goto 4, 3) := by decide +kernel
theorem dX5_areInConflict_23 : decode cX5_areInConflict 23 = .ok (.aload_n 1, 1) := by decide +kernel
theorem dX5_areInConflict_24 : decode cX5_areInConflict 24 = .ok (.astore 4, 2) := by decide +kernel
theorem dX5_areInConflict_26 : decode cX5_areInConflict 26 = .ok (.aload_n 1, 1) := by decide +kernel
theorem dX5_areInConflict_27 : decode cX5_areInConflict 27 = .ok (.getfield 140, 3) := by decide +kernel
theorem dX5_areInConflict_30 : decode cX5_areInConflict 30 = .ok (.aload_n 2, 1) := by decide +kernel
theorem dX5_areInConflict_31 : decode cX5_areInConflict 31 = .ok (.getfield 140, 3) := by decide +kernel
theorem dX5_areInConflict_34 : decode cX5_areInConflict 34 = .ok (.if_acmp .ne 29, 3) := by decide +kernel
theorem dX5_areInConflict_37 : decode cX5_areInConflict 37 = .ok (.aload 4, 2) := by decide +kernel
theorem dX5_areInConflict_39 : decode cX5_areInConflict 39 = .ok (.getfield 145, 3) := by decide +kernel
theorem dX5_areInConflict_42 : decode cX5_areInConflict 42 = .ok (.aload_n 3, 1) := by decide +kernel
theorem dX5_areInConflict_43 : decode cX5_areInConflict 43 = .ok (.getfield 148, 3) := by decide +kernel
theorem dX5_areInConflict_46 : decode cX5_areInConflict 46 = .ok (.aload_n 1, 1) := by decide +kernel
theorem dX5_areInConflict_47 : decode cX5_areInConflict 47 = .ok (.getfield 140, 3) := by decide +kernel
theorem dX5_areInConflict_50 : decode cX5_areInConflict 50 = .ok (.getfield 273, 3) := by decide +kernel
theorem dX5_areInConflict_53 : decode cX5_areInConflict 53 = .ok (.iadd, 1) := by decide +kernel
theorem dX5_areInConflict_54 : decode cX5_areInConflict 54 = .ok (.if_icmp .ge 7, 3) := by decide +kernel
theorem dX5_areInConflict_57 : decode cX5_areInConflict 57 = .ok (.iconst 1, 1) := by decide +kernel
theorem dX5_areInConflict_58 : decode cX5_areInConflict 58 = .ok (.goto 4, 3) := by decide +kernel
theorem dX5_areInConflict_61 : decode cX5_areInConflict 61 = .ok (.iconst 0, 1) := by decide +kernel
theorem dX5_areInConflict_62 : decode cX5_areInConflict 62 = .ok (.ireturn, 1) := by decide +kernel
theorem dX5_areInConflict_63 : decode cX5_areInConflict 63 = .ok (.aload_n 1, 1) := by decide +kernel
theorem dX5_areInConflict_64 : decode cX5_areInConflict 64 = .ok (.getfield 133, 3) := by decide +kernel
theorem dX5_areInConflict_67 : decode cX5_areInConflict 67 = .ok (.aload_n 2, 1) := by decide +kernel
theorem dX5_areInConflict_68 : decode cX5_areInConflict 68 = .ok (.getfield 133, 3) := by decide +kernel
theorem dX5_areInConflict_71 : decode cX5_areInConflict 71 = .ok (.if_acmp .eq 5, 3) := by decide +kernel
theorem dX5_areInConflict_74 : decode cX5_areInConflict 74 = .ok (.iconst 0, 1) := by decide +kernel
theorem dX5_areInConflict_75 : decode cX5_areInConflict 75 = .ok (.ireturn, 1) := by decide +kernel
theorem dX5_areInConflict_76 : decode cX5_areInConflict 76 = .ok (.aload 4, 2) := by decide +kernel
theorem dX5_areInConflict_78 : decode cX5_areInConflict 78 = .ok (.getfield 148, 3) := by decide +kernel
theorem dX5_areInConflict_81 : decode cX5_areInConflict 81 = .ok (.aload_n 3, 1) := by decide +kernel
theorem dX5_areInConflict_82 : decode cX5_areInConflict 82 = .ok (.getfield 148, 3) := by decide +kernel
theorem dX5_areInConflict_85 : decode cX5_areInConflict 85 = .ok (.if_icmp .le 20, 3) := by decide +kernel
theorem dX5_areInConflict_88 : decode cX5_areInConflict 88 = .ok (.aload_n 3, 1) := by decide +kernel
theorem dX5_areInConflict_89 : decode cX5_areInConflict 89 = .ok (.getfield 148, 3) := by decide +kernel
theorem dX5_areInConflict_92 : decode cX5_areInConflict 92 = .ok (.aload 4, 2) := by decide +kernel
theorem dX5_areInConflict_94 : decode cX5_areInConflict 94 = .ok (.getfield 145, 3) := by decide +kernel
theorem dX5_areInConflict_97 : decode cX5_areInConflict 97 = .ok (.isub, 1) := by decide +kernel
theorem dX5_areInConflict_98 : decode cX5_areInConflict 98 = .ok (.aload_n 0, 1) := by decide +kernel
theorem dX5_areInConflict_99 : decode cX5_areInConflict 99 = .ok (.getfield 36, 3) := by decide +kernel
theorem dX5_areInConflict_102 : decode cX5_areInConflict 102 = .ok (.if_icmp .le 7, 3) := by decide +kernel
theorem dX5_areInConflict_105 : decode cX5_areInConflict 105 = .ok (.iconst 1, 1) := by decide +kernel
theorem dX5_areInConflict_106 : decode cX5_areInConflict 106 = .ok (.goto 4, 3) := by decide +kernel
theorem dX5_areInConflict_109 : decode cX5_areInConflict 109 = .ok (.iconst 0, 1) := by decide +kernel
theorem dX5_areInConflict_110 : decode cX5_areInConflict 110 = .ok (.ireturn, 1) := by decide +kernel
set_option maxRecDepth 20000 in
theorem ggX5_isFree_X5_isOut : GoodIn wsX5_isFree wsX5_isOut := goodIn_r _ [10, 11, 12, 13, 14, 15, 16, 17, 18, 19, 20, 21, 22, 23, 24, 25, 26, 27, 28, 29, 30, 31, 32, 33, 34, 35, 36, 37, 38, 39, 40, 41, 42, 43, 71, 72, 73, 74, 75, 76, 77, 78, 79, 80] (by decide +kernel) (by decide +kernel)
set_option maxRecDepth 20000 in
theorem gX5_isFree_X5_isOut : GoodIn wsX5_isFree (wsV RX5 238 RX5 yX5_isOut wsX5_isOut) := goodIn_app (goodIn_of _ (by decide +kernel)) ggX5_isFree_X5_isOut
set_option maxRecDepth 20000 in
theorem ggX5_isFree_X5_isInConflictWithTaken : GoodIn wsX5_isFree wsX5_isInConflictWithTaken := goodIn_r _ [47, 48, 49, 1, 14, 15, 16, 17, 18, 19, 20, 21, 22, 23, 24, 25, 26, 27, 28, 29, 30, 31, 32, 33, 34, 35, 36, 50, 51, 52, 9, 53, 4, 2, 5, 54, 55, 56, 57, 58, 59, 60, 61, 62, 63, 71, 72, 73, 74, 75, 76, 77, 64, 65, 66, 67, 68, 69, 70, 78, 79, 80, 81, 82, 83, 84, 85] (by decide +kernel) (by decide +kernel)
set_option maxRecDepth 20000 in
theorem gX5_isFree_X5_isInConflictWithTaken : GoodIn wsX5_isFree (wsV RX5 276 RX5 yX5_isInConflictWithTaken wsX5_isInConflictWithTaken) := goodIn_app (goodIn_of _ (by decide +kernel)) ggX5_isFree_X5_isInConflictWithTaken
theorem dX5_isFree_0 : decode cX5_isFree 0 = .ok (.aload_n 1, 1) := by decide +kernel
theorem dX5_isFree_1 : decode cX5_isFree 1 = .ok (.getfield 154, 3) := by decide +kernel
theorem dX5_isFree_4 : decode cX5_isFree 4 = .ok (.ifCond .ne 45, 3) := by decide +kernel
theorem dX5_isFree_7 : decode cX5_isFree 7 = .ok (.aload_n 1, 1) := by decide +kernel
theorem dX5_isFree_8 : decode cX5_isFree 8 = .ok (.getfield 145, 3) := by decide +kernel
theorem dX5_isFree_11 : decode cX5_isFree 11 = .ok (.aload_n 0, 1) := by decide +kernel
theorem dX5_isFree_12 : decode cX5_isFree 12 = .ok (.getfield 32, 3) := by decide +kernel
theorem dX5_isFree_15 : decode cX5_isFree 15 = .ok (.if_icmp .lt 34, 3) := by decide +kernel
theorem dX5_isFree_18 : decode cX5_isFree 18 = .ok (.aload_n 0, 1) := by decide +kernel
theorem dX5_isFree_19 : decode cX5_isFree 19 = .ok (.aload_n 1, 1) := by decide +kernel
theorem dX5_isFree_20 : decode cX5_isFree 20 = .ok (.getfield 140, 3) := by decide +kernel
theorem dX5_isFree_23 : decode cX5_isFree 23 = .ok (.aload_n 1, 1) := by decide +kernel
theorem dX5_isFree_24 : decode cX5_isFree 24 = .ok (.getfield 145, 3) := by decide +kernel
theorem dX5_isFree_27 : decode cX5_isFree 27 = .ok (.aload_n 1, 1) := by decide +kernel
theorem dX5_isFree_28 : decode cX5_isFree 28 = .ok (.getfield 148, 3) := by decide +kernel
theorem dX5_isFree_31 : decode cX5_isFree 31 = .ok (.invokevirtual 238, 3) := by decide +kernel
theorem dX5_isFree_34 : decode cX5_isFree 34 = .ok (.ifCond .ne 15, 3) := by decide +kernel
theorem dX5_isFree_37 : decode cX5_isFree 37 = .ok (.aload_n 0, 1) := by decide +kernel
theorem dX5_isFree_38 : decode cX5_isFree 38 = .ok (.aload_n 1, 1) := by decide +kernel
theorem dX5_isFree_39 : decode cX5_isFree 39 = .ok (.invokevirtual 276, 3) := by decide +kernel