theorem dX5_weight_0 : decode cX5_weight 0 = .ok (.aload_n 0, 1) := by decide +kernel
theorem dX5_weight_1 : decode cX5_weight 1 = .ok (.iload_n 1, 1) := by decide +kernel
theorem dX5_weight_2 : decode cX5_weight 2 = .ok (.invokevirtual 187, 3) := by decide +kernel
theorem dX5_weight_5 : decode cX5_weight 5 = .ok (.iconst 0, 1) := by decide +kernel
theorem dX5_weight_6 : decode cX5_weight 6 = .ok (.istore_n 2, 1) := by decide +kernel
theorem dX5_weight_7 : decode cX5_weight 7 = .ok (.iconst 0, 1) := by decide +kernel
theorem dX5_weight_8 : decode cX5_weight 8 = .ok (.istore_n 3, 1) := by decide +kernel
theorem dX5_weight_9 : decode cX5_weight 9 = .ok (.iload_n 3, 1) := by decide +kernel
theorem dX5_weight_10 : decode cX5_weight 10 = .ok (.aload_n 0, 1) := by decide +kernel
theorem dX5_weight_11 : decode cX5_weight 11 = .ok (.getfield 19, 3) := by decide +kernel
theorem dX5_weight_14 : decode cX5_weight 14 = .ok (.invokevirtual 50, 3) := by decide +kernel
theorem dX5_weight_17 : decode cX5_weight 17 = .ok (.if_icmp .ge 34, 3) := by decide +kernel
theorem dX5_weight_20 : decode cX5_weight 20 = .ok (.iload_n 1, 1) := by decide +kernel
theorem dX5_weight_21 : decode cX5_weight 21 = .ok (.iload_n 3, 1) := by decide +kernel
theorem dX5_weight_22 : decode cX5_weight 22 = .ok (.invokestatic 98, 3) := by decide +kernel
theorem dX5_weight_25 : decode cX5_weight 25 = .ok (.ifCond .eq 20, 3) := by decide +kernel
theorem dX5_weight_28 : decode cX5_weight 28 = .ok (.iload_n 2, 1) := by decide +kernel
theorem dX5_weight_29 : decode cX5_weight 29 = .ok (.aload_n 0, 1) := by decide +kernel
theorem dX5_weight_30 : decode cX5_weight 30 = .ok (.getfield 19, 3) := by decide +kernel
theorem dX5_weight_33 : decode cX5_weight 33 = .ok (.iload_n 3, 1) := by decide +kernel
theorem dX5_weight_34 : decode cX5_weight 34 = .ok (.invokevirtual 191, 3) := by decide +kernel
theorem dX5_weight_37 : decode cX5_weight 37 = .ok (.checkcast 106, 3) := by decide +kernel
theorem dX5_weight_40 : decode cX5_weight 40 = .ok (.invokevirtual 151, 3) := by decide +kernel
theorem dX5_weight_43 : decode cX5_weight 43 = .ok (.iadd, 1) := by decide +kernel
theorem dX5_weight_44 : decode cX5_weight 44 = .ok (.istore_n 2, 1) := by decide +kernel
theorem dX5_weight_45 : decode cX5_weight 45 = .ok (.iinc 3 1, 3) := by decide +kernel
theorem dX5_weight_48 : decode cX5_weight 48 = .ok (.goto (-39), 3) := by decide +kernel
theorem dX5_weight_51 : decode cX5_weight 51 = .ok (.iload_n 2, 1) := by decide +kernel
theorem dX5_weight_52 : decode cX5_weight 52 = .ok (.ireturn, 1) := by decide +kernel
set_option maxRecDepth 20000 in
theorem ggX5_take_X5_checkSet : GoodIn wsX5_take wsX5_checkSet := goodIn_ca (goodIn_r _ [10, 11, 12, 3, 13, 14, 15, 16, 17, 18, 91, 92, 93, 94, 95, 96, 97, 105, 106, 107] (by decide +kernel) (by decide +kernel)) (goodIn_sub (fun _ h => List.mem_cons_of_mem _ (List.mem_append_right _ h)) (by decide +kernel))
set_option maxRecDepth 20000 in
theorem gX5_take_X5_checkSet : GoodIn wsX5_take (wsV RX5 187 RX5 yX5_checkSet wsX5_checkSet) := goodIn_app (goodIn_of _ (by decide +kernel)) ggX5_take_X5_checkSet
set_option maxRecDepth 20000 in
theorem ggX5_take_X5_areFreeTogether : GoodIn wsX5_take wsX5_areFreeTogether := goodIn_r _ [22, 3, 4, 13, 14, 15, 16, 17, 18, 23, 24, 9, 25, 26, 27, 28, 29, 30, 31, 32, 33, 34, 35, 36, 37, 38, 39, 40, 41, 42, 43, 44, 45, 46, 5, 47, 48, 49, 50, 51, 52, 53, 54, 55, 56, 57, 58, 59, 60, 61, 62, 63, 64, 65, 66, 67, 68, 69, 70, 71, 72, 73, 74, 75, 76, 77, 78, 79, 80, 81, 82, 83, 84, 85, 86, 91, 92, 93, 94, 95, 96, 97, 105, 106, 107, 98, 99, 100, 101, 102, 103, 104, 108, 109, 110, 111, 112, 113, 114, 115] (by decide +kernel) (by decide +kernel)
set_option maxRecDepth 20000 in
theorem gX5_take_X5_areFreeTogether : GoodIn wsX5_take (wsV RX5 195 RX5 yX5_areFreeTogether wsX5_areFreeTogether) := goodIn_app (goodIn_of _ (by decide +kernel)) ggX5_take_X5_areFreeTogether
set_option maxRecDepth 20000 in
theorem ggX5_take_Jx4a65c_size_8abf5 : GoodIn wsX5_take wsJx4a65c_size_8abf5 := goodIn_r _ [17, 18, 105, 106, 107] (by decide +kernel) (by decide +kernel)
set_option maxRecDepth 20000 in
theorem gX5_take_Jx4a65c_size_8abf5 : GoodIn wsX5_take (wsV RX5 50 RJx4a65c yJx4a65c_size_8abf5 wsJx4a65c_size_8abf5) := goodIn_app (goodIn_of _ (by decide +kernel)) ggX5_take_Jx4a65c_size_8abf5
set_option maxRecDepth 20000 in
theorem ggX5_take_X5_contains : GoodIn wsX5_take wsX5_contains := goodIn_r _ [25] (by decide +kernel) (by decide +kernel)
set_option maxRecDepth 20000 in
theorem gX5_take_X5_contains : GoodIn wsX5_take (va_wsS RX5 98 yX5_contains wsX5_contains) := goodIn_app (goodIn_of _ (by decide +kernel)) ggX5_take_X5_contains
set_option maxRecDepth 20000 in
theorem ggX5_take_Jx4a65c_get_915e3 : GoodIn wsX5_take wsJx4a65c_get_915e3 := goodIn_r _ [29, 18, 30, 31, 32, 33, 34, 35, 36, 37, 38, 39, 40, 16, 41, 42, 105, 106, 107] (by decide +kernel) (by decide +kernel)
set_option maxRecDepth 20000 in
theorem gX5_take_Jx4a65c_get_915e3 : GoodIn wsX5_take (wsV RX5 191 RJx4a65c yJx4a65c_get_915e3 wsJx4a65c_get_915e3) := goodIn_app (goodIn_of _ (by decide +kernel)) ggX5_take_Jx4a65c_get_915e3
set_option maxRecDepth 20000 in
theorem ggX5_take_X5_takenSet : GoodIn wsX5_take wsX5_takenSet := goodIn_r _ [90, 3, 4, 5, 13, 14, 15, 16, 17, 18, 26, 27, 28, 29, 30, 31, 32, 33, 34, 35, 36, 37, 38, 39, 40, 41, 42, 91, 92, 93, 94, 95, 96, 97, 98, 99, 100, 101, 102, 103, 104, 105, 106, 107] (by decide +kernel) (by decide +kernel)
set_option maxRecDepth 20000 in
theorem gX5_take_X5_takenSet : GoodIn wsX5_take (wsV RX5 201 RX5 yX5_takenSet wsX5_takenSet) := goodIn_app (goodIn_of _ (by decide +kernel)) ggX5_take_X5_takenSet
theorem dX5_take_0 : decode cX5_take 0 = .ok (.aload_n 0, 1) := by decide +kernel
theorem dX5_take_1 : decode cX5_take 1 = .ok (.iload_n 1, 1) := by decide +kernel
theorem dX5_take_2 : decode cX5_take 2 = .ok (.invokevirtual 187, 3) := by decide +kernel
theorem dX5_take_5 : decode cX5_take 5 = .ok (.aload_n 0, 1) := by decide +kernel
theorem dX5_take_6 : decode cX5_take 6 = .ok (.iload_n 1, 1) := by decide +kernel
theorem dX5_take_7 : decode cX5_take 7 = .ok (.invokevirtual 195, 3) := by decide +kernel
theorem dX5_take_10 : decode cX5_take 10 = .ok (.ifCond .ne 13, 3) := by decide +kernel
theorem dX5_take_13 : decode cX5_take 13 = .ok (.new 54, 3) := by decide +kernel
theorem dX5_take_16 : decode cX5_take 16 = .ok (.dup, 1) := by decide +kernel
theorem dX5_take_17 : decode cX5_take 17 = .ok (.ldc 199, 2) := by decide +kernel
theorem dX5_take_19 : decode cX5_take 19 = .ok (.invokespecial 58, 3) := by decide +kernel
theorem dX5_take_22 : decode cX5_take 22 = .ok (.athrow, 1) := by decide +kernel
theorem dX5_take_23 : decode cX5_take 23 = .ok (.iconst 0, 1) := by decide +kernel
theorem dX5_take_24 : decode cX5_take 24 = .ok (.istore_n 2, 1) := by decide +kernel
theorem dX5_take_25 : decode cX5_take 25 = .ok (.iload_n 2, 1) := by decide +kernel
theorem dX5_take_26 : decode cX5_take 26 = .ok (.aload_n 0, 1) := by decide +kernel
theorem dX5_take_27 : decode cX5_take 27 = .ok (.getfield 19, 3) := by decide +kernel
theorem dX5_take_30 : decode cX5_take 30 = .ok (.invokevirtual 50, 3) := by decide +kernel
theorem dX5_take_33 : decode cX5_take 33 = .ok (.if_icmp .ge 32, 3) := by decide +kernel
theorem dX5_take_36 : decode cX5_take 36 = .ok (.iload_n 1, 1) := by decide +kernel
theorem dX5_take_37 : decode cX5_take 37 = .ok (.iload_n 2, 1) := by decide +kernel
theorem dX5_take_38 : decode cX5_take 38 = .ok (.invokestatic 98, 3) := by decide +kernel
theorem dX5_take_41 : decode cX5_take 41 = .ok (.ifCond .eq 18, 3) := by decide +kernel
theorem dX5_take_44 : decode cX5_take 44 = .ok (.aload_n 0, 1) := by decide +kernel
theorem dX5_take_45 : decode cX5_take 45 = .ok (.getfield 19, 3) := by decide +kernel
theorem dX5_take_48 : decode cX5_take 48 = .ok (.iload_n 2, 1) := by decide +kernel
theorem dX5_take_49 : decode cX5_take 49 = .ok (.invokevirtual 191, 3) := by decide +kernel
theorem dX5_take_52 : decode cX5_take 52 = .ok (.checkcast 106, 3) := by decide +kernel
theorem dX5_take_55 : decode cX5_take 55 = .ok (.iconst 1, 1) := by decide +kernel
theorem dX5_take_56 : decode cX5_take 56 = .ok (.putfield 154, 3) := by decide +kernel
theorem dX5_take_59 : decode cX5_take 59 = .ok (.iinc 2 1, 3) := by decide +kernel
theorem dX5_take_62 : decode cX5_take 62 = .ok (.goto (-37), 3) := by decide +kernel
theorem dX5_take_65 : decode cX5_take 65 = .ok (.aload_n 0, 1) := by decide +kernel
theorem dX5_take_66 : decode cX5_take 66 = .ok (.invokevirtual 201, 3) := by decide +kernel
theorem dX5_take_69 : decode cX5_take 69 = .ok (.ireturn, 1) := by decide +kernel
set_option maxRecDepth 20000 in
theorem ggX5_giveUp_X5_passAt : GoodIn wsX5_giveUp wsX5_passAt := goodIn_ca (goodIn_r _ [10, 11, 12, 13, 14, 15, 16, 17, 18, 19, 20, 21, 22, 23, 24, 25, 26, 27, 28, 29, 30, 31, 32, 33, 34, 35, 36, 37, 49, 50, 51, 52, 53, 54, 55, 56, 57, 58] (by decide +kernel) (by decide +kernel)) (goodIn_sub (fun _ h => List.mem_cons_of_mem _ (List.mem_append_right _ h)) (by decide +kernel))
set_option maxRecDepth 20000 in
theorem gX5_giveUp_X5_passAt : GoodIn wsX5_giveUp (wsV RX5 129 RX5 yX5_passAt wsX5_passAt) := goodIn_app (goodIn_of _ (by decide +kernel)) ggX5_giveUp_X5_passAt
set_option maxRecDepth 20000 in
theorem ggX5_giveUp_X5_takenSet : GoodIn wsX5_giveUp wsX5_takenSet := goodIn_r _ [41, 13, 14, 3, 15, 16, 17, 18, 19, 20, 21, 22, 23, 24, 25, 26, 27, 28, 29, 30, 31, 32, 33, 34, 35, 36, 37, 49, 50, 51, 52, 53, 54, 55, 42, 43, 44, 45, 46, 47, 48, 56, 57, 58] (by decide +kernel) (by decide +kernel)
set_option maxRecDepth 20000 in
theorem gX5_giveUp_X5_takenSet : GoodIn wsX5_giveUp (wsV RX5 201 RX5 yX5_takenSet wsX5_takenSet) := goodIn_app (goodIn_of _ (by decide +kernel)) ggX5_giveUp_X5_takenSet
theorem dX5_giveUp_0 : decode cX5_giveUp 0 = .ok (.aload_n 0, 1) := by decide +kernel
theorem dX5_giveUp_1 : decode cX5_giveUp 1 = .ok (.iload_n 1, 1) := by decide +kernel
theorem dX5_giveUp_2 : decode cX5_giveUp 2 = .ok (.invokevirtual 129, 3) := by decide +kernel
theorem dX5_giveUp_5 : decode cX5_giveUp 5 = .ok (.astore_n 2, 1) := by decide +kernel
theorem dX5_giveUp_6 : decode cX5_giveUp 6 = .ok (.aload_n 2, 1) := by decide +kernel
theorem dX5_giveUp_7 : decode cX5_giveUp 7 = .ok (.getfield 154, 3) := by decide +kernel
theorem dX5_giveUp_10 : decode cX5_giveUp 10 = .ok (.ifCond .eq 14, 3) := by decide +kernel
theorem dX5_giveUp_13 : decode cX5_giveUp 13 = .ok (.aload_n 2, 1) := by decide +kernel
theorem dX5_giveUp_14 : decode cX5_giveUp 14 = .ok (.getfield 145, 3) := by decide +kernel
theorem dX5_giveUp_17 : decode cX5_giveUp 17 = .ok (.aload_n 0, 1) := by decide +kernel
theorem dX5_giveUp_18 : decode cX5_giveUp 18 = .ok (.getfield 32, 3) := by decide +kernel
theorem dX5_giveUp_21 : decode cX5_giveUp 21 = .ok (.if_icmp .ge 13, 3) := by decide +kernel
theorem dX5_giveUp_24 : decode cX5_giveUp 24 = .ok (.new 54, 3) := by decide +kernel
theorem dX5_giveUp_27 : decode cX5_giveUp 27 = .ok (.dup, 1) := by decide +kernel
theorem dX5_giveUp_28 : decode cX5_giveUp 28 = .ok (.ldc 204, 2) := by decide +kernel
theorem dX5_giveUp_30 : decode cX5_giveUp 30 = .ok (.invokespecial 58, 3) := by decide +kernel
theorem dX5_giveUp_33 : decode cX5_giveUp 33 = .ok (.athrow, 1) := by decide +kernel
theorem dX5_giveUp_34 : decode cX5_giveUp 34 = .ok (.aload_n 2, 1) := by decide +kernel
theorem dX5_giveUp_35 : decode cX5_giveUp 35 = .ok (.iconst 0, 1) := by decide +kernel
theorem dX5_giveUp_36 : decode cX5_giveUp 36 = .ok (.putfield 154, 3) := by decide +kernel
theorem dX5_giveUp_39 : decode cX5_giveUp 39 = .ok (.aload_n 0, 1) := by decide +kernel
theorem dX5_giveUp_40 : decode cX5_giveUp 40 = .ok (.invokevirtual 201, 3) := by decide +kernel
theorem dX5_giveUp_43 : decode cX5_giveUp 43 = .ok (.ireturn, 1) := by decide +kernel
set_option maxRecDepth 20000 in
theorem ggX5_taken_X5_takenSet : GoodIn wsX5_taken wsX5_takenSet := goodIn_r _ [5, 6, 7, 8, 9, 10, 11, 12, 13, 14, 15, 16, 17, 18, 19, 20, 21, 22, 23, 24, 25, 26, 27, 28, 29, 30, 31, 32, 33, 34, 35, 36, 37, 38, 39, 40, 41, 42, 43, 44, 45, 46, 47, 48] (by decide +kernel) (by decide +kernel)
set_option maxRecDepth 20000 in
theorem gX5_taken_X5_takenSet : GoodIn wsX5_taken (wsV RX5 201 RX5 yX5_takenSet wsX5_takenSet) := goodIn_app (goodIn_of _ (by decide +kernel)) ggX5_taken_X5_takenSet
theorem dX5_taken_0 : decode cX5_taken 0 = .ok (.aload_n 0, 1) := by decide +kernel
theorem dX5_taken_1 : decode cX5_taken 1 = .ok (.invokevirtual 201, 3) := by decide +kernel
theorem dX5_taken_4 : decode cX5_taken 4 = .ok (.ireturn, 1) := by decide +kernel
set_option maxRecDepth 20000 in
theorem ggX5_handovers_X5_satelliteAt : GoodIn wsX5_handovers wsX5_satelliteAt := goodIn_ca (goodIn_r _ [10, 11, 12, 13, 14, 15, 16, 17, 18, 19, 20, 21, 22, 23, 24, 25, 26, 27, 28, 29, 30, 31, 32, 33, 34, 35, 36, 37, 54, 55, 56, 57, 58, 59, 60, 68, 69, 70] (by decide +kernel) (by decide +kernel)) (goodIn_sub (fun _ h => List.mem_cons_of_mem _ (List.mem_append_right _ h)) (by decide +kernel))
set_option maxRecDepth 20000 in
theorem gX5_handovers_X5_satelliteAt : GoodIn wsX5_handovers (wsV RX5 78 RX5 yX5_satelliteAt wsX5_satelliteAt) := goodIn_app (goodIn_of _ (by decide +kernel)) ggX5_handovers_X5_satelliteAt
set_option maxRecDepth 20000 in
theorem ggX5_handovers_Jx4a65c_size_8abf5 : GoodIn wsX5_handovers wsJx4a65c_size_8abf5 := goodIn_r _ [19, 20, 68, 69, 70] (by decide +kernel) (by decide +kernel)
set_option maxRecDepth 20000 in
theorem gX5_handovers_Jx4a65c_size_8abf5 : GoodIn wsX5_handovers (wsV RX5 50 RJx4a65c yJx4a65c_size_8abf5 wsJx4a65c_size_8abf5) := goodIn_app (goodIn_of _ (by decide +kernel)) ggX5_handovers_Jx4a65c_size_8abf5
set_option maxRecDepth 20000 in
theorem ggX5_handovers_Jx4a65c_get_915e3 : GoodIn wsX5_handovers wsJx4a65c_get_915e3 := goodIn_r _ [24, 20, 25, 26, 27, 28, 29, 30, 31, 32, 33, 34, 35, 18, 36, 37, 68, 69, 70] (by decide +kernel) (by decide +kernel)
set_option maxRecDepth 20000 in
theorem gX5_handovers_Jx4a65c_get_915e3 : GoodIn wsX5_handovers (wsV RX5 191 RJx4a65c yJx4a65c_get_915e3 wsJx4a65c_get_915e3) := goodIn_app (goodIn_of _ (by decide +kernel)) ggX5_handovers_Jx4a65c_get_915e3
set_option maxRecDepth 20000 in
theorem ggX5_handovers_X5_startOf : GoodIn wsX5_handovers wsX5_startOf := goodIn_r _ [41, 5, 1, 2, 4, 3, 42, 43, 44, 45, 46, 15, 16, 17, 18, 19, 20, 21, 22, 23, 24, 25, 26, 27, 28, 29, 30, 31, 32, 33, 34, 35, 36, 37, 47, 48, 49, 50, 51, 52, 53, 61, 62, 63, 64, 65, 66, 67, 54, 55, 56, 57, 58, 59, 60, 68, 69, 70] (by decide +kernel) (by decide +kernel)
set_option maxRecDepth 20000 in
theorem gX5_handovers_X5_startOf : GoodIn wsX5_handovers (wsV RX5 161 RX5 yX5_startOf wsX5_startOf) := goodIn_app (goodIn_of _ (by decide +kernel)) ggX5_handovers_X5_startOf
theorem dX5_handovers_0 : decode cX5_handovers 0 = .ok (.aload_n 0, 1) := by decide +kernel
theorem dX5_handovers_1 : decode cX5_handovers 1 = .ok (.iload_n 1, 1) := by decide +kernel
theorem dX5_handovers_2 : decode cX5_handovers 2 = .ok (.invokevirtual 78, 3) := by decide +kernel
theorem dX5_handovers_5 : decode cX5_handovers 5 = .ok (.astore_n 2, 1) := by decide +kernel
theorem dX5_handovers_6 : decode cX5_handovers 6 = .ok (.iconst 0, 1) := by decide +kernel
theorem dX5_handovers_7 : decode cX5_handovers 7 = .ok (.istore_n 3, 1) := by decide +kernel
theorem dX5_handovers_8 : decode cX5_handovers 8 = .ok (.iconst 0, 1) := by decide +kernel
theorem dX5_handovers_9 : decode cX5_handovers 9 = .ok (.istore 4, 2) := by decide +kernel
theorem dX5_handovers_11 : decode cX5_handovers 11 = .ok (.iload 4, 2) := by decide +kernel
theorem dX5_handovers_13 : decode cX5_handovers 13 = .ok (.aload_n 0, 1) := by decide +kernel
theorem dX5_handovers_14 : decode cX5_handovers 14 = .ok (.getfield 19, 3) := by decide +kernel
theorem dX5_handovers_17 : decode cX5_handovers 17 = .ok (.invokevirtual 50, 3) := by decide +kernel
theorem dX5_handovers_20 : decode cX5_handovers 20 = .ok (.if_icmp .ge 57, 3) := by decide +kernel
theorem dX5_handovers_23 : decode cX5_handovers 23 = .ok (.aload_n 0, 1) := by decide +kernel
theorem dX5_handovers_24 : decode cX5_handovers 24 = .ok (.getfield 19, 3) := by decide +kernel
theorem dX5_handovers_27 : decode cX5_handovers 27 = .ok (.iload 4, 2) := by decide +kernel
theorem dX5_handovers_29 : decode cX5_handovers 29 = .ok (.invokevirtual 191, 3) := by decide +kernel
theorem dX5_handovers_32 : decode cX5_handovers 32 = .ok (.checkcast 106, 3) := by decide +kernel
theorem dX5_handovers_35 : decode cX5_handovers 35 = .ok (.astore 5, 2) := by decide +kernel
theorem dX5_handovers_37 : decode cX5_handovers 37 = .ok (.aload 5, 2) := by decide +kernel
theorem dX5_handovers_39 : decode cX5_handovers 39 = .ok (.getfield 133, 3) := by decide +kernel
theorem dX5_handovers_42 : decode cX5_handovers 42 = .ok (.aload_n 2, 1) := by decide +kernel
theorem dX5_handovers_43 : decode cX5_handovers 43 = .ok (.if_acmp .ne 28, 3) := by decide +kernel
theorem dX5_handovers_46 : decode cX5_handovers 46 = .ok (.aload 5, 2) := by decide +kernel
theorem dX5_handovers_48 : decode cX5_handovers 48 = .ok (.getfield 154, 3) := by decide +kernel
theorem dX5_handovers_51 : decode cX5_handovers 51 = .ok (.ifCond .eq 20, 3) := by decide +kernel
theorem dX5_handovers_54 : decode cX5_handovers 54 = .ok (.aload_n 0, 1) := by decide +kernel
theorem dX5_handovers_55 : decode cX5_handovers 55 = .ok (.aload 5, 2) := by decide +kernel
theorem dX5_handovers_57 : decode cX5_handovers 57 = .ok (.invokevirtual 161, 3) := by decide +kernel
theorem dX5_handovers_60 : decode cX5_handovers 60 = .ok (.aload 5, 2) := by decide +kernel
theorem dX5_handovers_62 : decode cX5_handovers 62 = .ok (.getfield 145, 3) := by decide +kernel
theorem dX5_handovers_65 : decode cX5_handovers 65 = .ok (.if_icmp .eq 6, 3) := by decide +kernel
theorem dX5_handovers_68 : decode cX5_handovers 68 = .ok (.iinc 3 1, 3) := by decide +kernel
theorem dX5_handovers_71 : decode cX5_handovers 71 = .ok (.iinc 4 1, 3) := by decide +kernel
theorem dX5_handovers_74 : decode cX5_handovers 74 = .ok (.goto (-63), 3) := by decide +kernel
theorem dX5_handovers_77 : decode cX5_handovers 77 = .ok (.iload_n 3, 1) := by decide +kernel
theorem dX5_handovers_78 : decode cX5_handovers 78 = .ok (.ireturn, 1) := by decide +kernel
set_option maxRecDepth 20000 in
theorem ggX5_run_X5_isWithin : GoodIn wsX5_run wsX5_isWithin := goodIn_r _ [9] (by decide +kernel) (by decide +kernel)
set_option maxRecDepth 20000 in
theorem gX5_run_X5_isWithin : GoodIn wsX5_run (va_wsS RX5 39 yX5_isWithin wsX5_isWithin) := goodIn_app (goodIn_of _ (by decide +kernel)) ggX5_run_X5_isWithin
set_option maxRecDepth 20000 in
theorem ggX5_run_X5_gatherEverywhere : GoodIn wsX5_run wsX5_gatherEverywhere := goodIn_r _ [13, 14, 15, 16, 17, 18, 19, 20, 21, 22, 23, 24, 25, 26, 27, 28, 29, 30, 31, 32, 33, 34, 35, 36, 37, 38, 39, 40, 41, 42, 43, 44, 45, 46, 47, 48, 49, 50, 51, 107, 108, 109, 110, 111, 112, 113, 114, 115, 116, 117, 118, 119, 120, 121, 122, 123, 124] (by decide +kernel) (by decide +kernel)
set_option maxRecDepth 20000 in
theorem gX5_run_X5_gatherEverywhere : GoodIn wsX5_run (wsV RX5 210 RX5 yX5_gatherEverywhere wsX5_gatherEverywhere) := goodIn_app (goodIn_of _ (by decide +kernel)) ggX5_run_X5_gatherEverywhere
set_option maxRecDepth 20000 in
theorem ggX5_run_X5_bringDownEverywhere : GoodIn wsX5_run wsX5_bringDownEverywhere := goodIn_r _ [55, 56, 57, 58, 5, 16, 17, 18, 19, 20, 21, 22, 23, 24, 25, 26, 27, 28, 29, 30, 31, 32, 33, 34, 35, 36, 37, 38, 59, 60, 61, 8, 62, 63, 64, 65, 66, 67, 68, 69, 70, 71, 72, 49, 73, 74, 75, 76, 77, 78, 79, 80, 81, 82, 83, 84, 85, 86, 87, 88, 89, 90, 91, 92, 93, 94, 95, 96, 97, 98, 99, 100, 101, 102, 103, 48, 50, 104, 105, 106, 107, 108, 109, 110, 111, 112, 113, 125, 126, 127, 128, 129, 130, 131, 114, 115, 116, 132, 133, 134, 135, 136, 137, 138, 139, 117, 118, 119, 120, 121, 122, 123, 124] (by decide +kernel) (by decide +kernel)
set_option maxRecDepth 20000 in
theorem gX5_run_X5_bringDownEverywhere : GoodIn wsX5_run (wsV RX5 213 RX5 yX5_bringDownEverywhere wsX5_bringDownEverywhere) := goodIn_app (goodIn_of _ (by decide +kernel)) ggX5_run_X5_bringDownEverywhere
theorem dX5_run_0 : decode cX5_run 0 = .ok (.iload_n 1, 1) := by decide +kernel
theorem dX5_run_1 : decode cX5_run 1 = .ok (.iconst 1, 1) := by decide +kernel
theorem dX5_run_2 : decode cX5_run 2 = .ok (.sipush 500, 3) := by decide +kernel
theorem dX5_run_5 : decode cX5_run 5 = .ok (.invokestatic 39, 3) := by decide +kernel
theorem dX5_run_8 : decode cX5_run 8 = .ok (.ifCond .ne 13, 3) := by decide +kernel
theorem dX5_run_11 : decode cX5_run 11 = .ok (.new 43, 3) := by decide +kernel
theorem dX5_run_14 : decode cX5_run 14 = .ok (.dup, 1) := by decide +kernel
theorem dX5_run_15 : decode cX5_run 15 = .ok (.ldc 206, 2) := by decide +kernel
theorem dX5_run_17 : decode cX5_run 17 = .ok (.invokespecial 47, 3) := by decide +kernel
theorem dX5_run_20 : decode cX5_run 20 = .ok (.athrow, 1) := by decide +kernel
theorem dX5_run_21 : decode cX5_run 21 = .ok (.aload_n 0, 1) := by decide +kernel
theorem dX5_run_22 : decode cX5_run 22 = .ok (.getfield 32, 3) := by decide +kernel
theorem dX5_run_25 : decode cX5_run 25 = .ok (.iload_n 1, 1) := by decide +kernel
theorem dX5_run_26 : decode cX5_run 26 = .ok (.iadd, 1) := by decide +kernel
theorem dX5_run_27 : decode cX5_run 27 = .ok (.sipush 9999, 3) := by decide +kernel
theorem dX5_run_30 : decode cX5_run 30 = .ok (.if_icmp .le 13, 3) := by decide +kernel
theorem dX5_run_33 : decode cX5_run 33 = .ok (.new 54, 3) := by decide +kernel
theorem dX5_run_36 : decode cX5_run 36 = .ok (.dup, 1) := by decide +kernel
theorem dX5_run_37 : decode cX5_run 37 = .ok (.ldc 208, 2) := by decide +kernel
theorem dX5_run_39 : decode cX5_run 39 = .ok (.invokespecial 58, 3) := by decide +kernel
theorem dX5_run_42 : decode cX5_run 42 = .ok (.athrow, 1) := by decide +kernel
theorem dX5_run_43 : decode cX5_run 43 = .ok (.iconst 0, 1) := by decide +kernel
theorem dX5_run_44 : decode cX5_run 44 = .ok (.istore_n 2, 1) := by decide +kernel
theorem dX5_run_45 : decode cX5_run 45 = .ok (.iconst 0, 1) := by decide +kernel
theorem dX5_run_46 : decode cX5_run 46 = .ok (.istore_n 3, 1) := by decide +kernel
theorem dX5_run_47 : decode cX5_run 47 = .ok (.iload_n 3, 1) := by decide +kernel
theorem dX5_run_48 : decode cX5_run 48 = .ok (.iload_n 1, 1) := by decide +kernel
theorem dX5_run_49 : decode cX5_run 49 = .ok (.if_icmp .ge 30, 3) := by decide +kernel
theorem dX5_run_52 : decode cX5_run 52 = .ok (.aload_n 0, 1) := by decide +kernel
theorem dX5_run_53 : decode cX5_run 53 = .ok (.invokevirtual 210, 3) := by decide +kernel
theorem dX5_run_56 : decode cX5_run 56 = .ok (.iload_n 2, 1) := by decide +kernel
theorem dX5_run_57 : decode cX5_run 57 = .ok (.aload_n 0, 1) := by decide +kernel
theorem dX5_run_58 : decode cX5_run 58 = .ok (.invokevirtual 213, 3) := by decide +kernel
theorem dX5_run_61 : decode cX5_run 61 = .ok (.iadd, 1) := by decide +kernel
theorem dX5_run_62 : decode cX5_run 62 = .ok (.istore_n 2, 1) := by decide +kernel
theorem dX5_run_63 : decode cX5_run 63 = .ok (.aload_n 0, 1) := by decide +kernel
theorem dX5_run_64 : decode cX5_run 64 = .ok (.dup, 1) := by decide +kernel
theorem dX5_run_65 : decode cX5_run 65 = .ok (.getfield 32, 3) := by decide +kernel
theorem dX5_run_68 : decode cX5_run 68 = .ok (.iconst 1, 1) := by decide +kernel
theorem dX5_run_69 : decode cX5_run 69 = .ok (.iadd, 1) := by decide +kernel
theorem dX5_run_70 : decode cX5_run 70 = .ok (.putfield 32, 3) := by decide +kernel
theorem dX5_run_73 : decode cX5_run 73 = .ok (.iinc 3 1, 3) := by decide +kernel
theorem dX5_run_76 : decode cX5_run 76 = .ok (.goto (-29), 3) := by decide +kernel
theorem dX5_run_79 : decode cX5_run 79 = .ok (.iload_n 2, 1) := by decide +kernel
theorem dX5_run_80 : decode cX5_run 80 = .ok (.ireturn, 1) := by decide +kernel
theorem dX5_now_0 : decode cX5_now 0 = .ok (.aload_n 0, 1) := by decide +kernel
theorem dX5_now_1 : decode cX5_now 1 = .ok (.getfield 32, 3) := by decide +kernel
theorem dX5_now_4 : decode cX5_now 4 = .ok (.ireturn, 1) := by decide +kernel
set_option maxRecDepth 20000 in
theorem ggX5_satellite_X5_satelliteAt : GoodIn wsX5_satellite wsX5_satelliteAt := goodIn_ca (goodIn_r _ [10, 1, 2, 11, 12, 13, 14, 15, 16, 17, 18, 19, 20, 21, 22, 23, 24, 25, 26, 27, 28, 29, 30, 31, 32, 33, 34, 35, 51, 52, 53, 54, 55, 56, 57, 58, 59, 60] (by decide +kernel) (by decide +kernel)) (goodIn_sub (fun _ h => List.mem_cons_of_mem _ (List.mem_append_right _ h)) (by decide +kernel))
set_option maxRecDepth 20000 in
theorem gX5_satellite_X5_satelliteAt : GoodIn wsX5_satellite (wsV RX5 78 RX5 yX5_satelliteAt wsX5_satelliteAt) := goodIn_app (goodIn_of _ (by decide +kernel)) ggX5_satellite_X5_satelliteAt
set_option maxRecDepth 20000 in
theorem ggX5_satellite_X5_minuteOfFull : GoodIn wsX5_satellite wsX5_minuteOfFull := goodIn_r _ [39, 40, 3, 41, 42, 43, 44, 45, 46, 47, 48, 49, 50, 51, 52, 53, 54, 55, 56, 57] (by decide +kernel) (by decide +kernel)
set_option maxRecDepth 20000 in
theorem gX5_satellite_X5_minuteOfFull : GoodIn wsX5_satellite (wsV RX5 225 RX5 yX5_minuteOfFull wsX5_minuteOfFull) := goodIn_app (goodIn_of _ (by decide +kernel)) ggX5_satellite_X5_minuteOfFull
theorem dX5_satellite_0 : decode cX5_satellite 0 = .ok (.aload_n 0, 1) := by decide +kernel
theorem dX5_satellite_1 : decode cX5_satellite 1 = .ok (.iload_n 1, 1) := by decide +kernel
theorem dX5_satellite_2 : decode cX5_satellite 2 = .ok (.invokevirtual 78, 3) := by decide +kernel
theorem dX5_satellite_5 : decode cX5_satellite 5 = .ok (.astore_n 3, 1) := by decide +kernel
theorem dX5_satellite_6 : decode cX5_satellite 6 = .ok (.iload_n 2, 1) := by decide +kernel
theorem dX5_satellite_7 : decode cX5_satellite 7 = .ok (.tableswitch 50 0 3 #[29, 34, 39, 44], 29) := by decide +kernel
theorem dX5_satellite_36 : decode cX5_satellite 36 = .ok (.aload_n 3, 1) := by decide +kernel
theorem dX5_satellite_37 : decode cX5_satellite 37 = .ok (.getfield 216, 3) := by decide +kernel
theorem dX5_satellite_40 : decode cX5_satellite 40 = .ok (.ireturn, 1) := by decide +kernel
theorem dX5_satellite_41 : decode cX5_satellite 41 = .ok (.aload_n 3, 1) := by decide +kernel
theorem dX5_satellite_42 : decode cX5_satellite 42 = .ok (.getfield 219, 3) := by decide +kernel
theorem dX5_satellite_45 : decode cX5_satellite 45 = .ok (.ireturn, 1) := by decide +kernel
theorem dX5_satellite_46 : decode cX5_satellite 46 = .ok (.aload_n 3, 1) := by decide +kernel
theorem dX5_satellite_47 : decode cX5_satellite 47 = .ok (.getfield 222, 3) := by decide +kernel
theorem dX5_satellite_50 : decode cX5_satellite 50 = .ok (.ireturn, 1) := by decide +kernel
theorem dX5_satellite_51 : decode cX5_satellite 51 = .ok (.aload_n 0, 1) := by decide +kernel
theorem dX5_satellite_52 : decode cX5_satellite 52 = .ok (.aload_n 3, 1) := by decide +kernel
theorem dX5_satellite_53 : decode cX5_satellite 53 = .ok (.invokevirtual 225, 3) := by decide +kernel
theorem dX5_satellite_56 : decode cX5_satellite 56 = .ok (.ireturn, 1) := by decide +kernel
theorem dX5_satellite_57 : decode cX5_satellite 57 = .ok (.new 124, 3) := by decide +kernel
theorem dX5_satellite_60 : decode cX5_satellite 60 = .ok (.dup, 1) := by decide +kernel
theorem dX5_satellite_61 : decode cX5_satellite 61 = .ok (.ldc 229, 2) := by decide +kernel
theorem dX5_satellite_63 : decode cX5_satellite 63 = .ok (.invokespecial 128, 3) := by decide +kernel
theorem dX5_satellite_66 : decode cX5_satellite 66 = .ok (.athrow, 1) := by decide +kernel
set_option maxRecDepth 20000 in
theorem ggX5_antenna_X5_antennaAt : GoodIn wsX5_antenna wsX5_antennaAt := goodIn_ca (goodIn_r _ [9, 1, 2, 10, 11, 12, 13, 14, 15, 16, 17, 18, 19, 20, 21, 22, 23, 24, 25, 26, 27, 28, 29, 30, 31, 32, 33, 34, 83, 84, 85, 86, 87, 88, 89, 95, 96, 97] (by decide +kernel) (by decide +kernel)) (goodIn_sub (fun _ h => List.mem_cons_of_mem _ (List.mem_append_right _ h)) (by decide +kernel))
set_option maxRecDepth 20000 in
theorem gX5_antenna_X5_antennaAt : GoodIn wsX5_antenna (wsV RX5 82 RX5 yX5_antennaAt wsX5_antennaAt) := goodIn_app (goodIn_of _ (by decide +kernel)) ggX5_antenna_X5_antennaAt
set_option maxRecDepth 20000 in
theorem ggX5_antenna_X5_heardOver : GoodIn wsX5_antenna wsX5_heardOver := goodIn_r _ [38, 39, 40, 41, 12, 13, 14, 15, 16, 17, 18, 19, 20, 21, 22, 23, 24, 25, 26, 27, 28, 29, 30, 31, 32, 33, 34, 42, 43, 44, 8, 45, 46, 47, 3, 48, 49, 50, 51, 52, 53, 54, 55, 56, 57, 58, 59, 60, 61, 62, 63, 64, 83, 84, 85, 86, 87, 88, 89, 98, 99, 100, 101, 102, 103, 104, 95, 96, 97] (by decide +kernel) (by decide +kernel)
set_option maxRecDepth 20000 in
theorem gX5_antenna_X5_heardOver : GoodIn wsX5_antenna (wsV RX5 231 RX5 yX5_heardOver wsX5_heardOver) := goodIn_app (goodIn_of _ (by decide +kernel)) ggX5_antenna_X5_heardOver
set_option maxRecDepth 20000 in
theorem ggX5_antenna_X5_nextOver : GoodIn wsX5_antenna wsX5_nextOver := goodIn_r _ [68, 39, 40, 41, 46, 47, 3, 12, 13, 14, 15, 16, 17, 18, 19, 20, 21, 22, 23, 24, 25, 26, 27, 28, 29, 30, 31, 32, 33, 34, 83, 84, 85, 86, 87, 88, 89, 98, 99, 100, 101, 102, 103, 104, 95, 96, 97] (by decide +kernel) (by decide +kernel)
set_option maxRecDepth 20000 in
theorem gX5_antenna_X5_nextOver : GoodIn wsX5_antenna (wsV RX5 235 RX5 yX5_nextOver wsX5_nextOver) := goodIn_app (goodIn_of _ (by decide +kernel)) ggX5_antenna_X5_nextOver
set_option maxRecDepth 20000 in
theorem ggX5_antenna_X5_isOut : GoodIn wsX5_antenna wsX5_isOut := goodIn_r _ [72, 73, 74, 75, 12, 13, 14, 15, 16, 17, 18, 19, 20, 21, 22, 23, 24, 25, 26, 27, 28, 29, 30, 31, 32, 33, 34, 76, 77, 78, 79, 80, 81, 82, 83, 84, 85, 86, 87, 88, 89, 105, 106, 107, 95, 96, 97] (by decide +kernel) (by decide +kernel)
set_option maxRecDepth 20000 in
theorem gX5_antenna_X5_isOut : GoodIn wsX5_antenna (wsV RX5 238 RX5 yX5_isOut wsX5_isOut) := goodIn_app (goodIn_of _ (by decide +kernel)) ggX5_antenna_X5_isOut
theorem dX5_antenna_0 : decode cX5_antenna 0 = .ok (.aload_n 0, 1) := by decide +kernel
theorem dX5_antenna_1 : decode cX5_antenna 1 = .ok (.iload_n 1, 1) := by decide +kernel
theorem dX5_antenna_2 : decode cX5_antenna 2 = .ok (.invokevirtual 82, 3) := by decide +kernel
theorem dX5_antenna_5 : decode cX5_antenna 5 = .ok (.astore_n 3, 1) := by decide +kernel
theorem dX5_antenna_6 : decode cX5_antenna 6 = .ok (.iload_n 2, 1) := by decide +kernel
theorem dX5_antenna_7 : decode cX5_antenna 7 = .ok (.tableswitch 70 0 3 #[29, 35, 41, 65], 29) := by decide +kernel
theorem dX5_antenna_36 : decode cX5_antenna 36 = .ok (.aload_n 0, 1) := by decide +kernel
theorem dX5_antenna_37 : decode cX5_antenna 37 = .ok (.aload_n 3, 1) := by decide +kernel
theorem dX5_antenna_38 : decode cX5_antenna 38 = .ok (.invokevirtual 231, 3) := by decide +kernel
theorem dX5_antenna_41 : decode cX5_antenna 41 = .ok (.ireturn, 1) := by decide +kernel
theorem dX5_antenna_42 : decode cX5_antenna 42 = .ok (.aload_n 0, 1) := by decide +kernel
theorem dX5_antenna_43 : decode cX5_antenna 43 = .ok (.aload_n 3, 1) := by decide +kernel
theorem dX5_antenna_44 : decode cX5_antenna 44 = .ok (.invokevirtual 235, 3) := by decide +kernel
theorem dX5_antenna_47 : decode cX5_antenna 47 = .ok (.ireturn, 1) := by decide +kernel
theorem dX5_antenna_48 : decode cX5_antenna 48 = .ok (.aload_n 0, 1) := by decide +kernel
theorem dX5_antenna_49 : decode cX5_antenna 49 = .ok (.aload_n 3, 1) := by decide +kernel
theorem dX5_antenna_50 : decode cX5_antenna 50 = .ok (.aload_n 0, 1) := by decide +kernel
theorem dX5_antenna_51 : decode cX5_antenna 51 = .ok (.getfield 32, 3) := by decide +kernel
theorem dX5_antenna_54 : decode cX5_antenna 54 = .ok (.aload_n 0, 1) := by decide +kernel
theorem dX5_antenna_55 : decode cX5_antenna 55 = .ok (.getfield 32, 3) := by decide +kernel
theorem dX5_antenna_58 : decode cX5_antenna 58 = .ok (.iconst 1, 1) := by decide +kernel
theorem dX5_antenna_59 : decode cX5_antenna 59 = .ok (.iadd, 1) := by decide +kernel
theorem dX5_antenna_60 : decode cX5_antenna 60 = .ok (.invokevirtual 238, 3) := by decide +kernel
theorem dX5_antenna_63 : decode cX5_antenna 63 = .ok (.ifCond .eq 7, 3) := by decide +kernel
theorem dX5_antenna_66 : decode cX5_antenna 66 = .ok (.iconst 1, 1) := by decide +kernel
theorem dX5_antenna_67 : decode cX5_antenna 67 = .ok (.goto 4, 3) := by decide +kernel
theorem dX5_antenna_70 : decode cX5_antenna 70 = .ok (.iconst 0, 1) := by decide +kernel
theorem dX5_antenna_71 : decode cX5_antenna 71 = .ok (.ireturn, 1) := by decide +kernel
theorem dX5_antenna_72 : decode cX5_antenna 72 = .ok (.aload_n 3, 1) := by decide +kernel
theorem dX5_antenna_73 : decode cX5_antenna 73 = .ok (.getfield 242, 3) := by decide +kernel
theorem dX5_antenna_76 : decode cX5_antenna 76 = .ok (.ireturn, 1) := by decide +kernel
theorem dX5_antenna_77 : decode cX5_antenna 77 = .ok (.new 124, 3) := by decide +kernel
theorem dX5_antenna_80 : decode cX5_antenna 80 = .ok (.dup, 1) := by decide +kernel
theorem dX5_antenna_81 : decode cX5_antenna 81 = .ok (.ldc 229, 2) := by decide +kernel
theorem dX5_antenna_83 : decode cX5_antenna 83 = .ok (.invokespecial 128, 3) := by decide +kernel
theorem dX5_antenna_86 : decode cX5_antenna 86 = .ok (.athrow, 1) := by decide +kernel
set_option maxRecDepth 20000 in
theorem ggX5_share_Jx4a65c_size_8abf5 : GoodIn wsX5_share wsJx4a65c_size_8abf5 := goodIn_r _ [8, 9, 50, 51, 52] (by decide +kernel) (by decide +kernel)
set_option maxRecDepth 20000 in
theorem gX5_share_Jx4a65c_size_8abf5 : GoodIn wsX5_share (wsV RX5 50 RJx4a65c yJx4a65c_size_8abf5 wsJx4a65c_size_8abf5) := goodIn_app (goodIn_of _ (by decide +kernel)) ggX5_share_Jx4a65c_size_8abf5
set_option maxRecDepth 20000 in
theorem ggX5_share_Jx4a65c_get_915e3 : GoodIn wsX5_share wsJx4a65c_get_915e3 := goodIn_r _ [13, 9, 14, 15, 16, 17, 18, 19, 20, 21, 22, 23, 24, 7, 25, 26, 50, 51, 52] (by decide +kernel) (by decide +kernel)
set_option maxRecDepth 20000 in
theorem gX5_share_Jx4a65c_get_915e3 : GoodIn wsX5_share (wsV RX5 191 RJx4a65c yJx4a65c_get_915e3 wsJx4a65c_get_915e3) := goodIn_app (goodIn_of _ (by decide +kernel)) ggX5_share_Jx4a65c_get_915e3
set_option maxRecDepth 20000 in
theorem ggX5_share_X3_gathered : GoodIn wsX5_share wsX3_gathered := goodIn_r _ [31, 32, 33, 34, 42, 43, 44, 45, 46, 47, 48, 49] (by decide +kernel) (by decide +kernel)
set_option maxRecDepth 20000 in
theorem gX5_share_X3_gathered : GoodIn wsX5_share (wsV RX5 243 RX3 yX3_gathered wsX3_gathered) := goodIn_app (goodIn_of _ (by decide +kernel)) ggX5_share_X3_gathered
theorem dX5_share_0 : decode cX5_share 0 = .ok (.iconst 0, 1) := by decide +kernel
theorem dX5_share_1 : decode cX5_share 1 = .ok (.istore_n 1, 1) := by decide +kernel
theorem dX5_share_2 : decode cX5_share 2 = .ok (.iconst 0, 1) := by decide +kernel
theorem dX5_share_3 : decode cX5_share 3 = .ok (.istore_n 2, 1) := by decide +kernel
theorem dX5_share_4 : decode cX5_share 4 = .ok (.iconst 0, 1) := by decide +kernel
theorem dX5_share_5 : decode cX5_share 5 = .ok (.istore_n 3, 1) := by decide +kernel
theorem dX5_share_6 : decode cX5_share 6 = .ok (.iload_n 3, 1) := by decide +kernel
theorem dX5_share_7 : decode cX5_share 7 = .ok (.aload_n 0, 1) := by decide +kernel
theorem dX5_share_8 : decode cX5_share 8 = .ok (.getfield 16, 3) := by decide +kernel
theorem dX5_share_11 : decode cX5_share 11 = .ok (.invokevirtual 50, 3) := by decide +kernel
theorem dX5_share_14 : decode cX5_share 14 = .ok (.if_icmp .ge 43, 3) := by decide +kernel
theorem dX5_share_17 : decode cX5_share 17 = .ok (.iload_n 1, 1) := by decide +kernel
theorem dX5_share_18 : decode cX5_share 18 = .ok (.aload_n 0, 1) := by decide +kernel
theorem dX5_share_19 : decode cX5_share 19 = .ok (.getfield 16, 3) := by decide +kernel
theorem dX5_share_22 : decode cX5_share 22 = .ok (.iload_n 3, 1) := by decide +kernel
theorem dX5_share_23 : decode cX5_share 23 = .ok (.invokevirtual 191, 3) := by decide +kernel
theorem dX5_share_26 : decode cX5_share 26 = .ok (.checkcast 73, 3) := by decide +kernel
theorem dX5_share_29 : decode cX5_share 29 = .ok (.invokevirtual 243, 3) := by decide +kernel
theorem dX5_share_32 : decode cX5_share 32 = .ok (.iadd, 1) := by decide +kernel
theorem dX5_share_33 : decode cX5_share 33 = .ok (.istore_n 1, 1) := by decide +kernel
theorem dX5_share_34 : decode cX5_share 34 = .ok (.iload_n 2, 1) := by decide +kernel
theorem dX5_share_35 : decode cX5_share 35 = .ok (.aload_n 0, 1) := by decide +kernel
theorem dX5_share_36 : decode cX5_share 36 = .ok (.getfield 16, 3) := by decide +kernel
theorem dX5_share_39 : decode cX5_share 39 = .ok (.iload_n 3, 1) := by decide +kernel
theorem dX5_share_40 : decode cX5_share 40 = .ok (.invokevirtual 191, 3) := by decide +kernel
theorem dX5_share_43 : decode cX5_share 43 = .ok (.checkcast 73, 3) := by decide +kernel
theorem dX5_share_46 : decode cX5_share 46 = .ok (.getfield 222, 3) := by decide +kernel
theorem dX5_share_49 : decode cX5_share 49 = .ok (.iadd, 1) := by decide +kernel
theorem dX5_share_50 : decode cX5_share 50 = .ok (.istore_n 2, 1) := by decide +kernel
theorem dX5_share_51 : decode cX5_share 51 = .ok (.iinc 3 1, 3) := by decide +kernel
theorem dX5_share_54 : decode cX5_share 54 = .ok (.goto (-48), 3) := by decide +kernel
theorem dX5_share_57 : decode cX5_share 57 = .ok (.iload_n 1, 1) := by decide +kernel
theorem dX5_share_58 : decode cX5_share 58 = .ok (.ifCond .ne 5, 3) := by decide +kernel
theorem dX5_share_61 : decode cX5_share 61 = .ok (.dconst 1, 1) := by decide +kernel
theorem dX5_share_62 : decode cX5_share 62 = .ok (.dreturn, 1) := by decide +kernel
theorem dX5_share_63 : decode cX5_share 63 = .ok (.iload_n 2, 1) := by decide +kernel
theorem dX5_share_64 : decode cX5_share 64 = .ok (.i2d, 1) := by decide +kernel
theorem dX5_share_65 : decode cX5_share 65 = .ok (.iload_n 1, 1) := by decide +kernel
theorem dX5_share_66 : decode cX5_share 66 = .ok (.i2d, 1) := by decide +kernel
theorem dX5_share_67 : decode cX5_share 67 = .ok (.ddiv, 1) := by decide +kernel
theorem dX5_share_68 : decode cX5_share 68 = .ok (.dreturn, 1) := by decide +kernel
set_option maxRecDepth 20000 in
theorem ggX5_digest_X5_mix : GoodIn wsX5_digest wsX5_mix := goodIn_r _ [10, 11] (by decide +kernel) (by decide +kernel)
set_option maxRecDepth 20000 in
theorem gX5_digest_X5_mix : GoodIn wsX5_digest (va_wsS RX5 248 yX5_mix wsX5_mix) := goodIn_app (goodIn_of _ (by decide +kernel)) ggX5_digest_X5_mix
set_option maxRecDepth 20000 in
theorem ggX5_digest_Jx4a65c_size_8abf5 : GoodIn wsX5_digest wsJx4a65c_size_8abf5 := goodIn_r _ [16, 17, 137, 138, 139] (by decide +kernel) (by decide +kernel)
set_option maxRecDepth 20000 in
theorem gX5_digest_Jx4a65c_size_8abf5 : GoodIn wsX5_digest (wsV RX5 50 RJx4a65c yJx4a65c_size_8abf5 wsJx4a65c_size_8abf5) := goodIn_app (goodIn_of _ (by decide +kernel)) ggX5_digest_Jx4a65c_size_8abf5
set_option maxRecDepth 20000 in
theorem ggX5_digest_X5_antenna : GoodIn wsX5_digest wsX5_antenna := goodIn_ca (goodIn_r _ [21, 22, 23, 2, 24, 25, 26, 27, 9, 28, 4, 29, 12, 13, 14, 15, 16, 17, 30, 31, 32, 33, 34, 35, 36, 37, 38, 39, 40, 41, 42, 43, 44, 45, 46, 47, 48, 49, 50, 6, 51, 52, 53, 54, 55, 56, 57, 58, 59, 60, 61, 62, 63, 64, 65, 66, 67, 68, 69, 70, 71, 72, 73, 74, 75, 76, 77, 78, 79, 80, 81, 82, 83, 84, 85, 86, 87, 88, 89, 90, 91, 92, 93, 130, 131, 132, 133, 134, 135, 136, 140, 141, 142, 143, 144, 137, 138, 139, 145, 146, 147, 148, 149, 150, 151, 152, 153, 154] (by decide +kernel) (by decide +kernel)) (goodIn_sub (fun _ h => List.mem_cons_of_mem _ (List.mem_append_right _ h)) (by decide +kernel))
set_option maxRecDepth 20000 in
theorem gX5_digest_X5_antenna : GoodIn wsX5_digest (wsV RX5 252 RX5 yX5_antenna wsX5_antenna) := goodIn_app (goodIn_of _ (by decide +kernel)) ggX5_digest_X5_antenna
set_option maxRecDepth 20000 in
theorem ggX5_digest_X5_satellite : GoodIn wsX5_digest wsX5_satellite := goodIn_ca (goodIn_r _ [97, 22, 23, 98, 99, 100, 101, 102, 103, 9, 104, 5, 105, 12, 13, 14, 15, 16, 17, 30, 31, 32, 33, 34, 35, 36, 37, 38, 39, 40, 41, 42, 43, 44, 45, 46, 106, 107, 108, 109, 110, 111, 2, 155, 156, 157, 158, 159, 160, 161, 162, 130, 131, 132, 133, 134, 135, 136, 137, 138, 139] (by decide +kernel) (by decide +kernel)) (goodIn_sub (fun _ h => List.mem_cons_of_mem _ (List.mem_append_right _ h)) (by decide +kernel))
set_option maxRecDepth 20000 in
theorem gX5_digest_X5_satellite : GoodIn wsX5_digest (wsV RX5 255 RX5 yX5_satellite wsX5_satellite) := goodIn_app (goodIn_of _ (by decide +kernel)) ggX5_digest_X5_satellite
set_option maxRecDepth 20000 in
theorem ggX5_digest_X5_pass : GoodIn wsX5_digest wsX5_pass := goodIn_ca (goodIn_r _ [115, 22, 23, 64, 116, 52, 117, 58, 59, 57, 118, 119, 120, 121, 9, 122, 6, 51, 12, 13, 14, 15, 16, 17, 30, 31, 32, 33, 34, 35, 36, 37, 38, 39, 40, 41, 42, 43, 44, 45, 46, 123, 124, 125, 72, 126, 127, 128, 129, 74, 60, 61, 62, 63, 65, 66, 67, 68, 69, 70, 71, 73, 75, 145, 146, 147, 148, 149, 150, 151, 155, 156, 157, 158, 159, 160, 161, 162, 140, 141, 142, 143, 144, 130, 131, 132, 133, 134, 135, 136, 137, 138, 139] (by decide +kernel) (by decide +kernel)) (goodIn_sub (fun _ h => List.mem_cons_of_mem _ (List.mem_append_right _ h)) (by decide +kernel))
set_option maxRecDepth 20000 in
theorem gX5_digest_X5_pass : GoodIn wsX5_digest (wsV RX5 257 RX5 yX5_pass wsX5_pass) := goodIn_app (goodIn_of _ (by decide +kernel)) ggX5_digest_X5_pass
theorem dX5_digest_0 : decode cX5_digest 0 = .ok (.ldc2_w 246, 3) := by decide +kernel
theorem dX5_digest_3 : decode cX5_digest 3 = .ok (.aload_n 0, 1) := by decide +kernel
theorem dX5_digest_4 : decode cX5_digest 4 = .ok (.getfield 32, 3) := by decide +kernel
theorem dX5_digest_7 : decode cX5_digest 7 = .ok (.i2l, 1) := by decide +kernel
theorem dX5_digest_8 : decode cX5_digest 8 = .ok (.invokestatic 248, 3) := by decide +kernel
theorem dX5_digest_11 : decode cX5_digest 11 = .ok (.aload_n 0, 1) := by decide +kernel
theorem dX5_digest_12 : decode cX5_digest 12 = .ok (.getfield 36, 3) := by decide +kernel
theorem dX5_digest_15 : decode cX5_digest 15 = .ok (.i2l, 1) := by decide +kernel
theorem dX5_digest_16 : decode cX5_digest 16 = .ok (.invokestatic 248, 3) := by decide +kernel
theorem dX5_digest_19 : decode cX5_digest 19 = .ok (.lstore_n 1, 1) := by decide +kernel
theorem dX5_digest_20 : decode cX5_digest 20 = .ok (.lload_n 1, 1) := by decide +kernel
theorem dX5_digest_21 : decode cX5_digest 21 = .ok (.aload_n 0, 1) := by decide +kernel
theorem dX5_digest_22 : decode cX5_digest 22 = .ok (.getfield 10, 3) := by decide +kernel
theorem dX5_digest_25 : decode cX5_digest 25 = .ok (.invokevirtual 50, 3) := by decide +kernel
theorem dX5_digest_28 : decode cX5_digest 28 = .ok (.i2l, 1) := by decide +kernel
theorem dX5_digest_29 : decode cX5_digest 29 = .ok (.invokestatic 248, 3) := by decide +kernel
theorem dX5_digest_32 : decode cX5_digest 32 = .ok (.lstore_n 1, 1) := by decide +kernel
theorem dX5_digest_33 : decode cX5_digest 33 = .ok (.iconst 0, 1) := by decide +kernel
theorem dX5_digest_34 : decode cX5_digest 34 = .ok (.istore_n 3, 1) := by decide +kernel
theorem dX5_digest_35 : decode cX5_digest 35 = .ok (.iload_n 3, 1) := by decide +kernel
theorem dX5_digest_36 : decode cX5_digest 36 = .ok (.aload_n 0, 1) := by decide +kernel
theorem dX5_digest_37 : decode cX5_digest 37 = .ok (.getfield 10, 3) := by decide +kernel
theorem dX5_digest_40 : decode cX5_digest 40 = .ok (.invokevirtual 50, 3) := by decide +kernel
theorem dX5_digest_43 : decode cX5_digest 43 = .ok (.if_icmp .ge 37, 3) := by decide +kernel
theorem dX5_digest_46 : decode cX5_digest 46 = .ok (.iconst 0, 1) := by decide +kernel
theorem dX5_digest_47 : decode cX5_digest 47 = .ok (.istore 4, 2) := by decide +kernel
theorem dX5_digest_49 : decode cX5_digest 49 = .ok (.iload 4, 2) := by decide +kernel
theorem dX5_digest_51 : decode cX5_digest 51 = .ok (.iconst 4, 1) := by decide +kernel
theorem dX5_digest_52 : decode cX5_digest 52 = .ok (.if_icmp .ge 22, 3) := by decide +kernel
theorem dX5_digest_55 : decode cX5_digest 55 = .ok (.lload_n 1, 1) := by decide +kernel
theorem dX5_digest_56 : decode cX5_digest 56 = .ok (.aload_n 0, 1) := by decide +kernel
theorem dX5_digest_57 : decode cX5_digest 57 = .ok (.iload_n 3, 1) := by decide +kernel
theorem dX5_digest_58 : decode cX5_digest 58 = .ok (.iload 4, 2) := by decide +kernel
theorem dX5_digest_60 : decode cX5_digest 60 = .ok (.invokevirtual 252, 3) := by decide +kernel
theorem dX5_digest_63 : decode cX5_digest 63 = .ok (.i2l, 1) := by decide +kernel
theorem dX5_digest_64 : decode cX5_digest 64 = .ok (.invokestatic 248, 3) := by decide +kernel
theorem dX5_digest_67 : decode cX5_digest 67 = .ok (.lstore_n 1, 1) := by decide +kernel
theorem dX5_digest_68 : decode cX5_digest 68 = .ok (.iinc 4 1, 3) := by decide +kernel
theorem dX5_digest_71 : decode cX5_digest 71 = .ok (.goto (-22), 3) := by decide +kernel
theorem dX5_digest_74 : decode cX5_digest 74 = .ok (.iinc 3 1, 3) := by decide +kernel
theorem dX5_digest_77 : decode cX5_digest 77 = .ok (.goto (-42), 3) := by decide +kernel
theorem dX5_digest_80 : decode cX5_digest 80 = .ok (.lload_n 1, 1) := by decide +kernel
theorem dX5_digest_81 : decode cX5_digest 81 = .ok (.aload_n 0, 1) := by decide +kernel
theorem dX5_digest_82 : decode cX5_digest 82 = .ok (.getfield 16, 3) := by decide +kernel
theorem dX5_digest_85 : decode cX5_digest 85 = .ok (.invokevirtual 50, 3) := by decide +kernel
theorem dX5_digest_88 : decode cX5_digest 88 = .ok (.i2l, 1) := by decide +kernel
theorem dX5_digest_89 : decode cX5_digest 89 = .ok (.invokestatic 248, 3) := by decide +kernel
theorem dX5_digest_92 : decode cX5_digest 92 = .ok (.lstore_n 1, 1) := by decide +kernel
theorem dX5_digest_93 : decode cX5_digest 93 = .ok (.iconst 0, 1) := by decide +kernel
theorem dX5_digest_94 : decode cX5_digest 94 = .ok (.istore_n 3, 1) := by decide +kernel
theorem dX5_digest_95 : decode cX5_digest 95 = .ok (.iload_n 3, 1) := by decide +kernel
theorem dX5_digest_96 : decode cX5_digest 96 = .ok (.aload_n 0, 1) := by decide +kernel
theorem dX5_digest_97 : decode cX5_digest 97 = .ok (.getfield 16, 3) := by decide +kernel
theorem dX5_digest_100 : decode cX5_digest 100 = .ok (.invokevirtual 50, 3) := by decide +kernel
theorem dX5_digest_103 : decode cX5_digest 103 = .ok (.if_icmp .ge 37, 3) := by decide +kernel
theorem dX5_digest_106 : decode cX5_digest 106 = .ok (.iconst 0, 1) := by decide +kernel
theorem dX5_digest_107 : decode cX5_digest 107 = .ok (.istore 4, 2) := by decide +kernel
theorem dX5_digest_109 : decode cX5_digest 109 = .ok (.iload 4, 2) := by decide +kernel
theorem dX5_digest_111 : decode cX5_digest 111 = .ok (.iconst 4, 1) := by decide +kernel
theorem dX5_digest_112 : decode cX5_digest 112 = .ok (.if_icmp .ge 22, 3) := by decide +kernel
theorem dX5_digest_115 : decode cX5_digest 115 = .ok (.lload_n 1, 1) := by decide +kernel
theorem dX5_digest_116 : decode cX5_digest 116 = .ok (.aload_n 0, 1) := by decide +kernel
theorem dX5_digest_117 : decode cX5_digest 117 = .ok (.iload_n 3, 1) := by decide +kernel
theorem dX5_digest_118 : decode cX5_digest 118 = .ok (.iload 4, 2) := by decide +kernel
theorem dX5_digest_120 : decode cX5_digest 120 = .ok (.invokevirtual 255, 3) := by decide +kernel
theorem dX5_digest_123 : decode cX5_digest 123 = .ok (.i2l, 1) := by decide +kernel
theorem dX5_digest_124 : decode cX5_digest 124 = .ok (.invokestatic 248, 3) := by decide +kernel
theorem dX5_digest_127 : decode cX5_digest 127 = .ok (.lstore_n 1, 1) := by decide +kernel
theorem dX5_digest_128 : decode cX5_digest 128 = .ok (.iinc 4 1, 3) := by decide +kernel
theorem dX5_digest_131 : decode cX5_digest 131 = .ok (.goto (-22), 3) := by decide +kernel
theorem dX5_digest_134 : decode cX5_digest 134 = .ok (.iinc 3 1, 3) := by decide +kernel
theorem dX5_digest_137 : decode cX5_digest 137 = .ok (.goto (-42), 3) := by decide +kernel
theorem dX5_digest_140 : decode cX5_digest 140 = .ok (.lload_n 1, 1) := by decide +kernel
theorem dX5_digest_141 : decode cX5_digest 141 = .ok (.aload_n 0, 1) := by decide +kernel
theorem dX5_digest_142 : decode cX5_digest 142 = .ok (.getfield 19, 3) := by decide +kernel
theorem dX5_digest_145 : decode cX5_digest 145 = .ok (.invokevirtual 50, 3) := by decide +kernel
theorem dX5_digest_148 : decode cX5_digest 148 = .ok (.i2l, 1) := by decide +kernel
theorem dX5_digest_149 : decode cX5_digest 149 = .ok (.invokestatic 248, 3) := by decide +kernel
theorem dX5_digest_152 : decode cX5_digest 152 = .ok (.lstore_n 1, 1) := by decide +kernel
theorem dX5_digest_153 : decode cX5_digest 153 = .ok (.iconst 0, 1) := by decide +kernel
theorem dX5_digest_154 : decode cX5_digest 154 = .ok (.istore_n 3, 1) := by decide +kernel
theorem dX5_digest_155 : decode cX5_digest 155 = .ok (.iload_n 3, 1) := by decide +kernel
theorem dX5_digest_156 : decode cX5_digest 156 = .ok (.aload_n 0, 1) := by decide +kernel
theorem dX5_digest_157 : decode cX5_digest 157 = .ok (.getfield 19, 3) := by decide +kernel
theorem dX5_digest_160 : decode cX5_digest 160 = .ok (.invokevirtual 50, 3) := by decide +kernel
theorem dX5_digest_163 : decode cX5_digest 163 = .ok (.if_icmp .ge 38, 3) := by decide +kernel
theorem dX5_digest_166 : decode cX5_digest 166 = .ok (.iconst 0, 1) := by decide +kernel
theorem dX5_digest_167 : decode cX5_digest 167 = .ok (.istore 4, 2) := by decide +kernel
theorem dX5_digest_169 : decode cX5_digest 169 = .ok (.iload 4, 2) := by decide +kernel
theorem dX5_digest_171 : decode cX5_digest 171 = .ok (.bipush 8, 2) := by decide +kernel
theorem dX5_digest_173 : decode cX5_digest 173 = .ok (.if_icmp .ge 22, 3) := by decide +kernel
theorem dX5_digest_176 : decode cX5_digest 176 = .ok (.lload_n 1, 1) := by decide +kernel
theorem dX5_digest_177 : decode cX5_digest 177 = .ok (.aload_n 0, 1) := by decide +kernel
theorem dX5_digest_178 : decode cX5_digest 178 = .ok (.iload_n 3, 1) := by decide +kernel
theorem dX5_digest_179 : decode cX5_digest 179 = .ok (.iload 4, 2) := by decide +kernel
theorem dX5_digest_181 : decode cX5_digest 181 = .ok (.invokevirtual 257, 3) := by decide +kernel
theorem dX5_digest_184 : decode cX5_digest 184 = .ok (.i2l, 1) := by decide +kernel
theorem dX5_digest_185 : decode cX5_digest 185 = .ok (.invokestatic 248, 3) := by decide +kernel
theorem dX5_digest_188 : decode cX5_digest 188 = .ok (.lstore_n 1, 1) := by decide +kernel
theorem dX5_digest_189 : decode cX5_digest 189 = .ok (.iinc 4 1, 3) := by decide +kernel
theorem dX5_digest_192 : decode cX5_digest 192 = .ok (.goto (-23), 3) := by decide +kernel
theorem dX5_digest_195 : decode cX5_digest 195 = .ok (.iinc 3 1, 3) := by decide +kernel
theorem dX5_digest_198 : decode cX5_digest 198 = .ok (.goto (-43), 3) := by decide +kernel
theorem dX5_digest_201 : decode cX5_digest 201 = .ok (.lload_n 1, 1) := by decide +kernel
theorem dX5_digest_202 : decode cX5_digest 202 = .ok (.lreturn, 1) := by decide +kernel
theorem dX5_isWithin_0 : decode cX5_isWithin 0 = .ok (.iload_n 0, 1) := by decide +kernel
theorem dX5_isWithin_1 : decode cX5_isWithin 1 = .ok (.iload_n 1, 1) := by decide +kernel
theorem dX5_isWithin_2 : decode cX5_isWithin 2 = .ok (.if_icmp .lt 12, 3) := by decide +kernel
theorem dX5_isWithin_5 : decode cX5_isWithin 5 = .ok (.iload_n 0, 1) := by decide +kernel
theorem dX5_isWithin_6 : decode cX5_isWithin 6 = .ok (.iload_n 2, 1) := by decide +kernel
theorem dX5_isWithin_7 : decode cX5_isWithin 7 = .ok (.if_icmp .gt 7, 3) := by decide +kernel
theorem dX5_isWithin_10 : decode cX5_isWithin 10 = .ok (.iconst 1, 1) := by decide +kernel
theorem dX5_isWithin_11 : decode cX5_isWithin 11 = .ok (.goto 4, 3) := by decide +kernel
theorem dX5_isWithin_14 : decode cX5_isWithin 14 = .ok (.iconst 0, 1) := by decide +kernel
theorem dX5_isWithin_15 : decode cX5_isWithin 15 = .ok (.ireturn, 1) := by decide +kernel
theorem dX5_contains_0 : decode cX5_contains 0 = .ok (.iload_n 0, 1) := by decide +kernel
theorem dX5_contains_1 : decode cX5_contains 1 = .ok (.iconst 1, 1) := by decide +kernel
theorem dX5_contains_2 : decode cX5_contains 2 = .ok (.iload_n 1, 1) := by decide +kernel
theorem dX5_contains_3 : decode cX5_contains 3 = .ok (.ishl, 1) := by decide +kernel
theorem dX5_contains_4 : decode cX5_contains 4 = .ok (.iand, 1) := by decide +kernel
theorem dX5_contains_5 : decode cX5_contains 5 = .ok (.ifCond .eq 7, 3) := by decide +kernel
theorem dX5_contains_8 : decode cX5_contains 8 = .ok (.iconst 1, 1) := by decide +kernel
theorem dX5_contains_9 : decode cX5_contains 9 = .ok (.goto 4, 3) := by decide +kernel
theorem dX5_contains_12 : decode cX5_contains 12 = .ok (.iconst 0, 1) := by decide +kernel
theorem dX5_contains_13 : decode cX5_contains 13 = .ok (.ireturn, 1) := by decide +kernel
theorem dX5_checkSpan_0 : decode cX5_checkSpan 0 = .ok (.iload_n 1, 1) := by decide +kernel
theorem dX5_checkSpan_1 : decode cX5_checkSpan 1 = .ok (.aload_n 0, 1) := by decide +kernel
theorem dX5_checkSpan_2 : decode cX5_checkSpan 2 = .ok (.getfield 32, 3) := by decide +kernel
theorem dX5_checkSpan_5 : decode cX5_checkSpan 5 = .ok (.if_icmp .lt 15, 3) := by decide +kernel
theorem dX5_checkSpan_8 : decode cX5_checkSpan 8 = .ok (.iload_n 2, 1) := by decide +kernel
theorem dX5_checkSpan_9 : decode cX5_checkSpan 9 = .ok (.iload_n 1, 1) := by decide +kernel
theorem dX5_checkSpan_10 : decode cX5_checkSpan 10 = .ok (.if_icmp .le 10, 3) := by decide +kernel
theorem dX5_checkSpan_13 : decode cX5_checkSpan 13 = .ok (.iload_n 2, 1) := by decide +kernel
theorem dX5_checkSpan_14 : decode cX5_checkSpan 14 = .ok (.sipush 9999, 3) := by decide +kernel
theorem dX5_checkSpan_17 : decode cX5_checkSpan 17 = .ok (.if_icmp .le 14, 3) := by decide +kernel
theorem dX5_checkSpan_20 : decode cX5_checkSpan 20 = .ok (.new 43, 3) := by decide +kernel
theorem dX5_checkSpan_23 : decode cX5_checkSpan 23 = .ok (.dup, 1) := by decide +kernel
theorem dX5_checkSpan_24 : decode cX5_checkSpan 24 = .ok (.ldc_w 260, 3) := by decide +kernel
theorem dX5_checkSpan_27 : decode cX5_checkSpan 27 = .ok (.invokespecial 47, 3) := by decide +kernel
theorem dX5_checkSpan_30 : decode cX5_checkSpan 30 = .ok (.athrow, 1) := by decide +kernel
theorem dX5_checkSpan_31 : decode cX5_checkSpan 31 = .ok (.return_, 1) := by decide +kernel
set_option maxRecDepth 20000 in
theorem ggX5_checkSet_Jx4a65c_size_8abf5 : GoodIn wsX5_checkSet wsJx4a65c_size_8abf5 := goodIn_r _ [8, 9, 17, 18, 19] (by decide +kernel) (by decide +kernel)
set_option maxRecDepth 20000 in
theorem gX5_checkSet_Jx4a65c_size_8abf5 : GoodIn wsX5_checkSet (wsV RX5 50 RJx4a65c yJx4a65c_size_8abf5 wsJx4a65c_size_8abf5) := goodIn_app (goodIn_of _ (by decide +kernel)) ggX5_checkSet_Jx4a65c_size_8abf5
theorem dX5_checkSet_0 : decode cX5_checkSet 0 = .ok (.iload_n 1, 1) := by decide +kernel
theorem dX5_checkSet_1 : decode cX5_checkSet 1 = .ok (.aload_n 0, 1) := by decide +kernel
theorem dX5_checkSet_2 : decode cX5_checkSet 2 = .ok (.getfield 19, 3) := by decide +kernel
theorem dX5_checkSet_5 : decode cX5_checkSet 5 = .ok (.invokevirtual 50, 3) := by decide +kernel
theorem dX5_checkSet_8 : decode cX5_checkSet 8 = .ok (.iushr, 1) := by decide +kernel
theorem dX5_checkSet_9 : decode cX5_checkSet 9 = .ok (.ifCond .eq 14, 3) := by decide +kernel
theorem dX5_checkSet_12 : decode cX5_checkSet 12 = .ok (.new 43, 3) := by decide +kernel
theorem dX5_checkSet_15 : decode cX5_checkSet 15 = .ok (.dup, 1) := by decide +kernel
theorem dX5_checkSet_16 : decode cX5_checkSet 16 = .ok (.ldc_w 262, 3) := by decide +kernel
theorem dX5_checkSet_19 : decode cX5_checkSet 19 = .ok (.invokespecial 47, 3) := by decide +kernel
theorem dX5_checkSet_22 : decode cX5_checkSet 22 = .ok (.athrow, 1) := by decide +kernel
theorem dX5_checkSet_23 : decode cX5_checkSet 23 = .ok (.return_, 1) := by decide +kernel
set_option maxRecDepth 20000 in
theorem ggX5_antennaAt_Jx4a65c_size_8abf5 : GoodIn wsX5_antennaAt wsJx4a65c_size_8abf5 := goodIn_r _ [9, 10, 35, 36, 37] (by decide +kernel) (by decide +kernel)
set_option maxRecDepth 20000 in
theorem gX5_antennaAt_Jx4a65c_size_8abf5 : GoodIn wsX5_antennaAt (wsV RX5 50 RJx4a65c yJx4a65c_size_8abf5 wsJx4a65c_size_8abf5) := goodIn_app (goodIn_of _ (by decide +kernel)) ggX5_antennaAt_Jx4a65c_size_8abf5
set_option maxRecDepth 20000 in
theorem ggX5_antennaAt_Jx4a65c_get_915e3 : GoodIn wsX5_antennaAt wsJx4a65c_get_915e3 := goodIn_r _ [14, 10, 15, 16, 17, 18, 19, 20, 21, 22, 23, 24, 25, 8, 26, 27, 35, 36, 37] (by decide +kernel) (by decide +kernel)
set_option maxRecDepth 20000 in
theorem gX5_antennaAt_Jx4a65c_get_915e3 : GoodIn wsX5_antennaAt (wsV RX5 191 RJx4a65c yJx4a65c_get_915e3 wsJx4a65c_get_915e3) := goodIn_app (goodIn_of _ (by decide +kernel)) ggX5_antennaAt_Jx4a65c_get_915e3
theorem dX5_antennaAt_0 : decode cX5_antennaAt 0 = .ok (.iload_n 1, 1) := by decide +kernel
theorem dX5_antennaAt_1 : decode cX5_antennaAt 1 = .ok (.ifCond .lt 14, 3) := by decide +kernel
theorem dX5_antennaAt_4 : decode cX5_antennaAt 4 = .ok (.iload_n 1, 1) := by decide +kernel
theorem dX5_antennaAt_5 : decode cX5_antennaAt 5 = .ok (.aload_n 0, 1) := by decide +kernel
theorem dX5_antennaAt_6 : decode cX5_antennaAt 6 = .ok (.getfield 10, 3) := by decide +kernel
theorem dX5_antennaAt_9 : decode cX5_antennaAt 9 = .ok (.invokevirtual 50, 3) := by decide +kernel
theorem dX5_antennaAt_12 : decode cX5_antennaAt 12 = .ok (.if_icmp .lt 14, 3) := by decide +kernel
theorem dX5_antennaAt_15 : decode cX5_antennaAt 15 = .ok (.new 124, 3) := by decide +kernel
theorem dX5_antennaAt_18 : decode cX5_antennaAt 18 = .ok (.dup, 1) := by decide +kernel
theorem dX5_antennaAt_19 : decode cX5_antennaAt 19 = .ok (.ldc_w 264, 3) := by decide +kernel
theorem dX5_antennaAt_22 : decode cX5_antennaAt 22 = .ok (.invokespecial 128, 3) := by decide +kernel
theorem dX5_antennaAt_25 : decode cX5_antennaAt 25 = .ok (.athrow, 1) := by decide +kernel
theorem dX5_antennaAt_26 : decode cX5_antennaAt 26 = .ok (.aload_n 0, 1) := by decide +kernel
theorem dX5_antennaAt_27 : decode cX5_antennaAt 27 = .ok (.getfield 10, 3) := by decide +kernel
theorem dX5_antennaAt_30 : decode cX5_antennaAt 30 = .ok (.iload_n 1, 1) := by decide +kernel
theorem dX5_antennaAt_31 : decode cX5_antennaAt 31 = .ok (.invokevirtual 191, 3) := by decide +kernel
theorem dX5_antennaAt_34 : decode cX5_antennaAt 34 = .ok (.checkcast 59, 3) := by decide +kernel
theorem dX5_antennaAt_37 : decode cX5_antennaAt 37 = .ok (.areturn, 1) := by decide +kernel
set_option maxRecDepth 20000 in
theorem ggX5_satelliteAt_Jx4a65c_size_8abf5 : GoodIn wsX5_satelliteAt wsJx4a65c_size_8abf5 := goodIn_r _ [9, 10, 35, 36, 37] (by decide +kernel) (by decide +kernel)
set_option maxRecDepth 20000 in
theorem gX5_satelliteAt_Jx4a65c_size_8abf5 : GoodIn wsX5_satelliteAt (wsV RX5 50 RJx4a65c yJx4a65c_size_8abf5 wsJx4a65c_size_8abf5) := goodIn_app (goodIn_of _ (by decide +kernel)) ggX5_satelliteAt_Jx4a65c_size_8abf5
set_option maxRecDepth 20000 in
theorem ggX5_satelliteAt_Jx4a65c_get_915e3 : GoodIn wsX5_satelliteAt wsJx4a65c_get_915e3 := goodIn_r _ [14, 10, 15, 16, 17, 18, 19, 20, 21, 22, 23, 24, 25, 8, 26, 27, 35, 36, 37] (by decide +kernel) (by decide +kernel)
set_option maxRecDepth 20000 in
theorem gX5_satelliteAt_Jx4a65c_get_915e3 : GoodIn wsX5_satelliteAt (wsV RX5 191 RJx4a65c yJx4a65c_get_915e3 wsJx4a65c_get_915e3) := goodIn_app (goodIn_of _ (by decide +kernel)) ggX5_satelliteAt_Jx4a65c_get_915e3
theorem dX5_satelliteAt_0 : decode cX5_satelliteAt 0 = .ok (.iload_n 1, 1) := by decide +kernel
theorem dX5_satelliteAt_1 : decode cX5_satelliteAt 1 = .ok (.ifCond .lt 14, 3) := by decide +kernel
theorem dX5_satelliteAt_4 : decode cX5_satelliteAt 4 = .ok (.iload_n 1, 1) := by decide +kernel
theorem dX5_satelliteAt_5 : decode cX5_satelliteAt 5 = .ok (.aload_n 0, 1) := by decide +kernel
theorem dX5_satelliteAt_6 : decode cX5_satelliteAt 6 = .ok (.getfield 16, 3) := by decide +kernel
theorem dX5_satelliteAt_9 : decode cX5_satelliteAt 9 = .ok (.invokevirtual 50, 3) := by decide +kernel
theorem dX5_satelliteAt_12 : decode cX5_satelliteAt 12 = .ok (.if_icmp .lt 14, 3) := by decide +kernel
theorem dX5_satelliteAt_15 : decode cX5_satelliteAt 15 = .ok (.new 124, 3) := by decide +kernel
theorem dX5_satelliteAt_18 : decode cX5_satelliteAt 18 = .ok (.dup, 1) := by decide +kernel
theorem dX5_satelliteAt_19 : decode cX5_satelliteAt 19 = .ok (.ldc_w 266, 3) := by decide +kernel
theorem dX5_satelliteAt_22 : decode cX5_satelliteAt 22 = .ok (.invokespecial 128, 3) := by decide +kernel
theorem dX5_satelliteAt_25 : decode cX5_satelliteAt 25 = .ok (.athrow, 1) := by decide +kernel
theorem dX5_satelliteAt_26 : decode cX5_satelliteAt 26 = .ok (.aload_n 0, 1) := by decide +kernel
theorem dX5_satelliteAt_27 : decode cX5_satelliteAt 27 = .ok (.getfield 16, 3) := by decide +kernel
theorem dX5_satelliteAt_30 : decode cX5_satelliteAt 30 = .ok (.iload_n 1, 1) := by decide +kernel
theorem dX5_satelliteAt_31 : decode cX5_satelliteAt 31 = .ok (.invokevirtual 191, 3) := by decide +kernel
theorem dX5_satelliteAt_34 : decode cX5_satelliteAt 34 = .ok (.checkcast 73, 3) := by decide +kernel
theorem dX5_satelliteAt_37 : decode cX5_satelliteAt 37 = .ok (.areturn, 1) := by decide +kernel
set_option maxRecDepth 20000 in
theorem ggX5_passAt_Jx4a65c_size_8abf5 : GoodIn wsX5_passAt wsJx4a65c_size_8abf5 := goodIn_r _ [9, 10, 35, 36, 37] (by decide +kernel) (by decide +kernel)
set_option maxRecDepth 20000 in
theorem gX5_passAt_Jx4a65c_size_8abf5 : GoodIn wsX5_passAt (wsV RX5 50 RJx4a65c yJx4a65c_size_8abf5 wsJx4a65c_size_8abf5) := goodIn_app (goodIn_of _ (by decide +kernel)) ggX5_passAt_Jx4a65c_size_8abf5
set_option maxRecDepth 20000 in
theorem ggX5_passAt_Jx4a65c_get_915e3 : GoodIn wsX5_passAt wsJx4a65c_get_915e3 := goodIn_r _ [14, 10, 15, 16, 17, 18, 19, 20, 21, 22, 23, 24, 25, 8, 26, 27, 35, 36, 37] (by decide +kernel) (by decide +kernel)
set_option maxRecDepth 20000 in
theorem gX5_passAt_Jx4a65c_get_915e3 : GoodIn wsX5_passAt (wsV RX5 191 RJx4a65c yJx4a65c_get_915e3 wsJx4a65c_get_915e3) := goodIn_app (goodIn_of _ (by decide +kernel)) ggX5_passAt_Jx4a65c_get_915e3
theorem dX5_passAt_0 : decode cX5_passAt 0 = .ok (.iload_n 1, 1) := by decide +kernel
theorem dX5_passAt_1 : decode cX5_passAt 1 = .ok (.ifCond .lt 14, 3) := by decide +kernel
theorem dX5_passAt_4 : decode cX5_passAt 4 = .ok (.iload_n 1, 1) := by decide +kernel
theorem dX5_passAt_5 : decode cX5_passAt 5 = .ok (.aload_n 0, 1) := by decide +kernel
theorem dX5_passAt_6 : decode cX5_passAt 6 = .ok (.getfield 19, 3) := by decide +kernel
theorem dX5_passAt_9 : decode cX5_passAt 9 = .ok (.invokevirtual 50, 3) := by decide +kernel
theorem dX5_passAt_12 : decode cX5_passAt 12 = .ok (.if_icmp .lt 14, 3) := by decide +kernel
theorem dX5_passAt_15 : decode cX5_passAt 15 = .ok (.new 124, 3) := by decide +kernel
theorem dX5_passAt_18 : decode cX5_passAt 18 = .ok (.dup, 1) := by decide +kernel
theorem dX5_passAt_19 : decode cX5_passAt 19 = .ok (.ldc_w 268, 3) := by decide +kernel
theorem dX5_passAt_22 : decode cX5_passAt 22 = .ok (.invokespecial 128, 3) := by decide +kernel
theorem dX5_passAt_25 : decode cX5_passAt 25 = .ok (.athrow, 1) := by decide +kernel
theorem dX5_passAt_26 : decode cX5_passAt 26 = .ok (.aload_n 0, 1) := by decide +kernel
theorem dX5_passAt_27 : decode cX5_passAt 27 = .ok (.getfield 19, 3) := by decide +kernel
theorem dX5_passAt_30 : decode cX5_passAt 30 = .ok (.iload_n 1, 1) := by decide +kernel
theorem dX5_passAt_31 : decode cX5_passAt 31 = .ok (.invokevirtual 191, 3) := by decide +kernel
theorem dX5_passAt_34 : decode cX5_passAt 34 = .ok (.checkcast 106, 3) := by decide +kernel
theorem dX5_passAt_37 : decode cX5_passAt 37 = .ok (.areturn, 1) := by decide +kernel
set_option maxRecDepth 20000 in
theorem ggX5_areInConflict_X2_isEarlierThan : GoodIn wsX5_areInConflict wsX2_isEarlierThan := goodIn_r _ [11, 12, 13, 14, 15, 16, 17, 18, 19, 20] (by decide +kernel) (by decide +kernel)
set_option maxRecDepth 20000 in
theorem gX5_areInConflict_X2_isEarlierThan : GoodIn wsX5_areInConflict (wsV RX5 270 RX2 yX2_isEarlierThan wsX2_isEarlierThan) := goodIn_app (goodIn_of _ (by decide +kernel)) ggX5_areInConflict_X2_isEarlierThan
theorem dX5_areInConflict_0 : decode cX5_areInConflict 0 = .ok (.aload_n 1, 1) := by decide +kernel
theorem dX5_areInConflict_1 : decode cX5_areInConflict 1 = .ok (.aload_n 2, 1) := by decide +kernel
theorem dX5_areInConflict_2 : decode cX5_areInConflict 2 = .ok (.invokevirtual 270, 3) := by decide +kernel
theorem dX5_areInConflict_5 : decode cX5_areInConflict 5 = .ok (.ifCond .eq 7, 3) := by decide +kernel
theorem dX5_areInConflict_8 : decode cX5_areInConflict 8 = .ok (.aload_n 1, 1) := by decide +kernel
theorem dX5_areInConflict_9 : decode cX5_areInConflict 9 = .ok (.goto 4, 3) := by decide +kernel
theorem dX5_areInConflict_12 : decode cX5_areInConflict 12 = .ok (.aload_n 2, 1) := by decide +kernel
theorem dX5_areInConflict_13 : decode cX5_areInConflict 13 = .ok (.astore_n 3, 1) := by decide +kernel
theorem dX5_areInConflict_14 : decode cX5_areInConflict 14 = .ok (.aload_n 3, 1) := by decide +kernel
theorem dX5_areInConflict_15 : decode cX5_areInConflict 15 = .ok (.aload_n 1, 1) := by decide +kernel
theorem dX5_areInConflict_16 : decode cX5_areInConflict 16 = .ok (.if_acmp .ne 7, 3) := by decide +kernel
theorem dX5_areInConflict_19 : decode cX5_areInConflict 19 = .ok (.aload_n 2, 1) := by decide +kernel
theorem dX5_areInConflict_20 : decode cX5_areInConflict 20 = .ok (.goto 4, 3) := by decide +kernel
theorem dX5_areInConflict_23 : decode cX5_areInConflict 23 = .ok (.aload_n 1, 1) := by decide +kernel
theorem dX5_areInConflict_24 : decode cX5_areInConflict 24 = .ok (.astore 4, 2) := by decide +kernel
theorem dX5_areInConflict_26 : decode cX5_areInConflict 26 = .ok (.aload_n 1, 1) := by decide +kernel
theorem dX5_areInConflict_27 : decode cX5_areInConflict 27 = .ok (.getfield 140, 3) := by decide +kernel
theorem dX5_areInConflict_30 : decode cX5_areInConflict 30 = .ok (.aload_n 2, 1) := by decide +kernel
theorem dX5_areInConflict_31 : decode cX5_areInConflict 31 = .ok (.getfield 140, 3) := by decide +kernel
theorem dX5_areInConflict_34 : decode cX5_areInConflict 34 = .ok (.if_acmp .ne 29, 3) := by decide +kernel
theorem dX5_areInConflict_37 : decode cX5_areInConflict 37 = .ok (.aload 4, 2) := by decide +kernel
theorem dX5_areInConflict_39 : decode cX5_areInConflict 39 = .ok (.getfield 145, 3) := by decide +kernel
theorem dX5_areInConflict_42 : decode cX5_areInConflict 42 = .ok (.aload_n 3, 1) := by decide +kernel
theorem dX5_areInConflict_43 : decode cX5_areInConflict 43 = .ok (.getfield 148, 3) := by decide +kernel
theorem dX5_areInConflict_46 : decode cX5_areInConflict 46 = .ok (.aload_n 1, 1) := by decide +kernel
theorem dX5_areInConflict_47 : decode cX5_areInConflict 47 = .ok (.getfield 140, 3) := by decide +kernel
theorem dX5_areInConflict_50 : decode cX5_areInConflict 50 = .ok (.getfield 273, 3) := by decide +kernel
theorem dX5_areInConflict_53 : decode cX5_areInConflict 53 = .ok (.iadd, 1) := by decide +kernel
theorem dX5_areInConflict_54 : decode cX5_areInConflict 54 = .ok (.if_icmp .ge 7, 3) := by decide +kernel
theorem dX5_areInConflict_57 : decode cX5_areInConflict 57 = .ok (.iconst 1, 1) := by decide +kernel
theorem dX5_areInConflict_58 : decode cX5_areInConflict 58 = .ok (.goto 4, 3) := by decide +kernel
theorem dX5_areInConflict_61 : decode cX5_areInConflict 61 = .ok (.iconst 0, 1) := by decide +kernel
theorem dX5_areInConflict_62 : decode cX5_areInConflict 62 = .ok (.ireturn, 1) := by decide +kernel
theorem dX5_areInConflict_63 : decode cX5_areInConflict 63 = .ok (.aload_n 1, 1) := by decide +kernel
theorem dX5_areInConflict_64 : decode cX5_areInConflict 64 = .ok (.getfield 133, 3) := by decide +kernel
theorem dX5_areInConflict_67 : decode cX5_areInConflict 67 = .ok (.aload_n 2, 1) := by decide +kernel
theorem dX5_areInConflict_68 : decode cX5_areInConflict 68 = .ok (.getfield 133, 3) := by decide +kernel
theorem dX5_areInConflict_71 : decode cX5_areInConflict 71 = .ok (.if_acmp .eq 5, 3) := by decide +kernel
theorem dX5_areInConflict_74 : decode cX5_areInConflict 74 = .ok (.iconst 0, 1) := by decide +kernel
theorem dX5_areInConflict_75 : decode cX5_areInConflict 75 = .ok (.ireturn, 1) := by decide +kernel
theorem dX5_areInConflict_76 : decode cX5_areInConflict 76 = .ok (.aload 4, 2) := by decide +kernel
theorem dX5_areInConflict_78 : decode cX5_areInConflict 78 = .ok (.getfield 148, 3) := by decide +kernel
theorem dX5_areInConflict_81 : decode cX5_areInConflict 81 = .ok (.aload_n 3, 1) := by decide +kernel
theorem dX5_areInConflict_82 : decode cX5_areInConflict 82 = .ok (.getfield 148, 3) := by decide +kernel
theorem dX5_areInConflict_85 : decode cX5_areInConflict 85 = .ok (.if_icmp .le 20, 3) := by decide +kernel
theorem dX5_areInConflict_88 : decode cX5_areInConflict 88 = .ok (.aload_n 3, 1) := by decide +kernel
theorem dX5_areInConflict_89 : decode cX5_areInConflict 89 = .ok (.getfield 148, 3) := by decide +kernel
theorem dX5_areInConflict_92 : decode cX5_areInConflict 92 = .ok (.aload 4, 2) := by decide +kernel
theorem dX5_areInConflict_94 : decode cX5_areInConflict 94 = .ok (.getfield 145, 3) := by decide +kernel
theorem dX5_areInConflict_97 : decode cX5_areInConflict 97 = .ok (.isub, 1) := by decide +kernel
theorem dX5_areInConflict_98 : decode cX5_areInConflict 98 = .ok (.aload_n 0, 1) := by decide +kernel
theorem dX5_areInConflict_99 : decode cX5_areInConflict 99 = .ok (.getfield 36, 3) := by decide +kernel
theorem dX5_areInConflict_102 : decode cX5_areInConflict 102 = .ok (.if_icmp .le 7, 3) := by decide +kernel
theorem dX5_areInConflict_105 : decode cX5_areInConflict 105 = .ok (.iconst 1, 1) := by decide +kernel
theorem dX5_areInConflict_106 : decode cX5_areInConflict 106 = .ok (.goto 4, 3) := by decide +kernel
theorem dX5_areInConflict_109 : decode cX5_areInConflict 109 = .ok (.iconst 0, 1) := by decide +kernel
theorem dX5_areInConflict_110 : decode cX5_areInConflict 110 = .ok (.ireturn, 1) := by decide +kernel
set_option maxRecDepth 20000 in
theorem ggX5_isFree_X5_isOut : GoodIn wsX5_isFree wsX5_isOut := goodIn_r _ [10, 11, 12, 13, 14, 15, 16, 17, 18, 19, 20, 21, 22, 23, 24, 25, 26, 27, 28, 29, 30, 31, 32, 33, 34, 35, 36, 37, 38, 39, 40, 41, 42, 43, 71, 72, 73, 74, 75, 76, 77, 78, 79, 80, 81, 82, 83] (by decide +kernel) (by decide +kernel)
set_option maxRecDepth 20000 in
theorem gX5_isFree_X5_isOut : GoodIn wsX5_isFree (wsV RX5 238 RX5 yX5_isOut wsX5_isOut) := goodIn_app (goodIn_of _ (by decide +kernel)) ggX5_isFree_X5_isOut
set_option maxRecDepth 20000 in
theorem ggX5_isFree_X5_isInConflictWithTaken : GoodIn wsX5_isFree wsX5_isInConflictWithTaken := goodIn_r _ [47, 48, 49, 1, 14, 15, 16, 17, 18, 19, 20, 21, 22, 23, 24, 25, 26, 27, 28, 29, 30, 31, 32, 33, 34, 35, 36, 50, 51, 52, 9, 53, 4, 2, 5, 54, 55, 56, 57, 58, 59, 60, 61, 62, 63, 71, 72, 73, 74, 75, 76, 77, 64, 65, 66, 67, 68, 69, 70, 81, 82, 83, 84, 85, 86, 87, 88] (by decide +kernel) (by decide +kernel)
set_option maxRecDepth 20000 in
theorem gX5_isFree_X5_isInConflictWithTaken : GoodIn wsX5_isFree (wsV RX5 276 RX5 yX5_isInConflictWithTaken wsX5_isInConflictWithTaken) := goodIn_app (goodIn_of _ (by decide +kernel)) ggX5_isFree_X5_isInConflictWithTaken
theorem dX5_isFree_0 : decode cX5_isFree 0 = .ok (.aload_n 1, 1) := by decide +kernel
theorem dX5_isFree_1 : decode cX5_isFree 1 = .ok (.getfield 154, 3) := by decide +kernel
theorem dX5_isFree_4 : decode cX5_isFree 4 = .ok (.ifCond .ne 45, 3) := by decide +kernel
theorem dX5_isFree_7 : decode cX5_isFree 7 = .ok (.aload_n 1, 1) := by decide +kernel
theorem dX5_isFree_8 : decode cX5_isFree 8 = .ok (.getfield 145, 3) := by decide +kernel
theorem dX5_isFree_11 : decode cX5_isFree 11 = .ok (.aload_n 0, 1) := by decide +kernel
theorem dX5_isFree_12 : decode cX5_isFree 12 = .ok (.getfield 32, 3) := by decide +kernel
theorem dX5_isFree_15 : decode cX5_isFree 15 = .ok (.if_icmp .lt 34, 3) := by decide +kernel
theorem dX5_isFree_18 : decode cX5_isFree 18 = .ok (.aload_n 0, 1) := by decide +kernel
theorem dX5_isFree_19 : decode cX5_isFree 19 = .ok (.aload_n 1, 1) := by decide +kernel
theorem dX5_isFree_20 : decode cX5_isFree 20 = .ok (.getfield 140, 3) := by decide +kernel
theorem dX5_isFree_23 : decode cX5_isFree 23 = .ok (.aload_n 1, 1) := by decide +kernel
theorem dX5_isFree_24 : decode cX5_isFree 24 = .ok (.getfield 145, 3) := by decide +kernel
theorem dX5_isFree_27 : decode cX5_isFree 27 = .ok (.aload_n 1, 1) := by decide +kernel
theorem dX5_isFree_28 : decode cX5_isFree 28 = .ok (.getfield 148, 3) := by decide +kernel
theorem dX5_isFree_31 : decode cX5_isFree 31 = .ok (.invokevirtual 238, 3) := by decide +kernel
theorem dX5_isFree_34 : decode cX5_isFree 34 = .ok (.ifCond .ne 15, 3) := by decide +kernel
theorem dX5_isFree_37 : decode cX5_isFree 37 = .ok (.aload_n 0, 1) := by decide +kernel
theorem dX5_isFree_38 : decode cX5_isFree 38 = .ok (.aload_n 1, 1) := by decide +kernel
theorem dX5_isFree_39 : decode cX5_isFree 39 = .ok (.invokevirtual 276, 3) := by decide +kernel
theorem dX5_isFree_42 : decode cX5_isFree 42 = .ok (.ifCond .ne 7, 3) := by decide +kernel
theorem dX5_isFree_45 : decode cX5_isFree 45 = .ok (.iconst 1, 1) := by decide +kernel
theorem dX5_isFree_46 : decode cX5_isFree 46 = .ok (.goto 4, 3) := by decide +kernel
theorem dX5_isFree_49 : decode cX5_isFree 49 = .ok (.iconst 0, 1) := by decide +kernel
theorem dX5_isFree_50 : decode cX5_isFree 50 = .ok (.ireturn, 1) := by decide +kernel
set_option maxRecDepth 20000 in
theorem ggX5_isInConflictWithTaken_Jx4a65c_size_8abf5 : GoodIn wsX5_isInConflictWithTaken wsJx4a65c_size_8abf5 := goodIn_r _ [8, 9, 59, 60, 61] (by decide +kernel) (by decide +kernel)
set_option maxRecDepth 20000 in
theorem gX5_isInConflictWithTaken_Jx4a65c_size_8abf5 : GoodIn wsX5_isInConflictWithTaken (wsV RX5 50 RJx4a65c yJx4a65c_size_8abf5 wsJx4a65c_size_8abf5) := goodIn_app (goodIn_of _ (by decide +kernel)) ggX5_isInConflictWithTaken_Jx4a65c_size_8abf5
set_option maxRecDepth 20000 in
theorem ggX5_isInConflictWithTaken_Jx4a65c_get_915e3 : GoodIn wsX5_isInConflictWithTaken wsJx4a65c_get_915e3 := goodIn_r _ [13, 9, 14, 15, 16, 17, 18, 19, 20, 21, 22, 23, 24, 7, 25, 26, 59, 60, 61] (by decide +kernel) (by decide +kernel)
set_option maxRecDepth 20000 in
theorem gX5_isInConflictWithTaken_Jx4a65c_get_915e3 : GoodIn wsX5_isInConflictWithTaken (wsV RX5 191 RJx4a65c yJx4a65c_get_915e3 wsJx4a65c_get_915e3) := goodIn_app (goodIn_of _ (by decide +kernel)) ggX5_isInConflictWithTaken_Jx4a65c_get_915e3
set_option maxRecDepth 20000 in
theorem ggX5_isInConflictWithTaken_X5_areInConflict : GoodIn wsX5_isInConflictWithTaken wsX5_areInConflict := goodIn_r _ [31, 32, 33, 34, 35, 36, 37, 38, 39, 40, 41, 42, 43, 44, 52, 53, 54, 55, 56, 57, 58, 62, 63, 64, 65, 66, 45, 46, 47, 48, 49, 50, 51] (by decide +kernel) (by decide +kernel)
set_option maxRecDepth 20000 in
theorem gX5_isInConflictWithTaken_X5_areInConflict : GoodIn wsX5_isInConflictWithTaken (wsV RX5 169 RX5 yX5_areInConflict wsX5_areInConflict) := goodIn_app (goodIn_of _ (by decide +kernel)) ggX5_isInConflictWithTaken_X5_areInConflict
theorem dX5_isInConflictWithTaken_0 : decode cX5_isInConflictWithTaken 0 = .ok (.iconst 0, 1) := by decide +kernel
theorem dX5_isInConflictWithTaken_1 : decode cX5_isInConflictWithTaken 1 = .ok (.istore_n 2, 1) := by decide +kernel
theorem dX5_isInConflictWithTaken_2 : decode cX5_isInConflictWithTaken 2 = .ok (.iload_n 2, 1) := by decide +kernel
theorem dX5_isInConflictWithTaken_3 : decode cX5_isInConflictWithTaken 3 = .ok (.aload_n 0, 1) := by decide +kernel
theorem dX5_isInConflictWithTaken_4 : decode cX5_isInConflictWithTaken 4 = .ok (.getfield 19, 3) := by decide +kernel
theorem dX5_isInConflictWithTaken_7 : decode cX5_isInConflictWithTaken 7 = .ok (.invokevirtual 50, 3) := by decide +kernel
theorem dX5_isInConflictWithTaken_10 : decode cX5_isInConflictWithTaken 10 = .ok (.if_icmp .ge 44, 3) := by decide +kernel
theorem dX5_isInConflictWithTaken_13 : decode cX5_isInConflictWithTaken 13 = .ok (.aload_n 0, 1) := by decide +kernel
theorem dX5_isInConflictWithTaken_14 : decode cX5_isInConflictWithTaken 14 = .ok (.getfield 19, 3) := by decide +kernel
theorem dX5_isInConflictWithTaken_17 : decode cX5_isInConflictWithTaken 17 = .ok (.iload_n 2, 1) := by decide +kernel
theorem dX5_isInConflictWithTaken_18 : decode cX5_isInConflictWithTaken 18 = .ok (.invokevirtual 191, 3) := by decide +kernel
theorem dX5_isInConflictWithTaken_21 : decode cX5_isInConflictWithTaken 21 = .ok (.checkcast 106, 3) := by decide +kernel
theorem dX5_isInConflictWithTaken_24 : decode cX5_isInConflictWithTaken 24 = .ok (.astore_n 3, 1) := by decide +kernel
theorem dX5_isInConflictWithTaken_25 : decode cX5_isInConflictWithTaken 25 = .ok (.aload_n 3, 1) := by decide +kernel
theorem dX5_isInConflictWithTaken_26 : decode cX5_isInConflictWithTaken 26 = .ok (.aload_n 1, 1) := by decide +kernel
theorem dX5_isInConflictWithTaken_27 : decode cX5_isInConflictWithTaken 27 = .ok (.if_acmp .eq 21, 3) := by decide +kernel
theorem dX5_isInConflictWithTaken_30 : decode cX5_isInConflictWithTaken 30 = .ok (.aload_n 3, 1) := by decide +kernel
theorem dX5_isInConflictWithTaken_31 : decode cX5_isInConflictWithTaken 31 = .ok (.getfield 154, 3) := by decide +kernel
theorem dX5_isInConflictWithTaken_34 : decode cX5_isInConflictWithTaken 34 = .ok (.ifCond .eq 14, 3) := by decide +kernel
theorem dX5_isInConflictWithTaken_37 : decode cX5_isInConflictWithTaken 37 = .ok (.aload_n 0, 1) := by decide +kernel
theorem dX5_isInConflictWithTaken_38 : decode cX5_isInConflictWithTaken 38 = .ok (.aload_n 1, 1) := by decide +kernel
theorem dX5_isInConflictWithTaken_39 : decode cX5_isInConflictWithTaken 39 = .ok (.aload_n 3, 1) := by decide +kernel
theorem dX5_isInConflictWithTaken_40 : decode cX5_isInConflictWithTaken 40 = .ok (.invokevirtual 169, 3) := by decide +kernel
theorem dX5_isInConflictWithTaken_43 : decode cX5_isInConflictWithTaken 43 = .ok (.ifCond .eq 5, 3) := by decide +kernel
theorem dX5_isInConflictWithTaken_46 : decode cX5_isInConflictWithTaken 46 = .ok (.iconst 1, 1) := by decide +kernel
theorem dX5_isInConflictWithTaken_47 : decode cX5_isInConflictWithTaken 47 = .ok (.ireturn, 1) := by decide +kernel
theorem dX5_isInConflictWithTaken_48 : decode cX5_isInConflictWithTaken 48 = .ok (.iinc 2 1, 3) := by decide +kernel
theorem dX5_isInConflictWithTaken_51 : decode cX5_isInConflictWithTaken 51 = .ok (.goto (-49), 3) := by decide +kernel
theorem dX5_isInConflictWithTaken_54 : decode cX5_isInConflictWithTaken 54 = .ok (.iconst 0, 1) := by decide +kernel
theorem dX5_isInConflictWithTaken_55 : decode cX5_isInConflictWithTaken 55 = .ok (.ireturn, 1) := by decide +kernel
set_option maxRecDepth 20000 in
theorem ggX5_areFreeTogether_Jx4a65c_size_8abf5 : GoodIn wsX5_areFreeTogether wsJx4a65c_size_8abf5 := goodIn_r _ [7, 8, 82, 83, 84] (by decide +kernel) (by decide +kernel)
set_option maxRecDepth 20000 in
theorem gX5_areFreeTogether_Jx4a65c_size_8abf5 : GoodIn wsX5_areFreeTogether (wsV RX5 50 RJx4a65c yJx4a65c_size_8abf5 wsJx4a65c_size_8abf5) := goodIn_app (goodIn_of _ (by decide +kernel)) ggX5_areFreeTogether_Jx4a65c_size_8abf5
set_option maxRecDepth 20000 in
theorem ggX5_areFreeTogether_X5_contains : GoodIn wsX5_areFreeTogether wsX5_contains := goodIn_r _ [12] (by decide +kernel) (by decide +kernel)
set_option maxRecDepth 20000 in
theorem gX5_areFreeTogether_X5_contains : GoodIn wsX5_areFreeTogether (va_wsS RX5 98 yX5_contains wsX5_contains) := goodIn_app (goodIn_of _ (by decide +kernel)) ggX5_areFreeTogether_X5_contains
set_option maxRecDepth 20000 in
theorem ggX5_areFreeTogether_Jx4a65c_get_915e3 : GoodIn wsX5_areFreeTogether wsJx4a65c_get_915e3 := goodIn_r _ [16, 8, 17, 18, 19, 20, 21, 22, 23, 24, 25, 26, 27, 6, 28, 29, 82, 83, 84] (by decide +kernel) (by decide +kernel)
set_option maxRecDepth 20000 in
theorem gX5_areFreeTogether_Jx4a65c_get_915e3 : GoodIn wsX5_areFreeTogether (wsV RX5 191 RJx4a65c yJx4a65c_get_915e3 wsJx4a65c_get_915e3) := goodIn_app (goodIn_of _ (by decide +kernel)) ggX5_areFreeTogether_Jx4a65c_get_915e3
set_option maxRecDepth 20000 in
theorem ggX5_areFreeTogether_X5_isFree : GoodIn wsX5_areFreeTogether wsX5_isFree := goodIn_r _ [33, 34, 35, 36, 37, 38, 39, 40, 41, 11, 42, 43, 44, 45, 3, 4, 5, 6, 7, 8, 13, 14, 15, 16, 17, 18, 19, 20, 21, 22, 23, 24, 25, 26, 27, 28, 29, 46, 47, 48, 49, 50, 51, 52, 53, 54, 55, 56, 1, 2, 57, 58, 59, 60, 61, 62, 63, 64, 65, 66, 67, 68, 69, 70, 85, 86, 87, 88, 89, 90, 91, 75, 76, 77, 78, 79, 80, 81, 92, 93, 94, 82, 83, 84, 95, 96, 97, 98, 99] (by decide +kernel) (by decide +kernel)
set_option maxRecDepth 20000 in
theorem gX5_areFreeTogether_X5_isFree : GoodIn wsX5_areFreeTogether (wsV RX5 173 RX5 yX5_isFree wsX5_isFree) := goodIn_app (goodIn_of _ (by decide +kernel)) ggX5_areFreeTogether_X5_isFree
set_option maxRecDepth 20000 in
theorem ggX5_areFreeTogether_X5_conflictsOf : GoodIn wsX5_areFreeTogether wsX5_conflictsOf := goodIn_r _ [74, 1, 2, 3, 4, 5, 6, 7, 8, 13, 14, 15, 16, 17, 18, 19, 20, 21, 22, 23, 24, 25, 26, 27, 28, 29, 57, 58, 59, 11, 60, 37, 35, 38, 61, 62, 63, 64, 65, 66, 67, 68, 69, 70, 75, 76, 77, 78, 79, 80, 81, 82, 83, 84, 85, 86, 87, 88, 89, 90, 91, 95, 96, 97, 98, 99] (by decide +kernel) (by decide +kernel)
set_option maxRecDepth 20000 in
theorem gX5_areFreeTogether_X5_conflictsOf : GoodIn wsX5_areFreeTogether (wsV RX5 279 RX5 yX5_conflictsOf wsX5_conflictsOf) := goodIn_app (goodIn_of _ (by decide +kernel)) ggX5_areFreeTogether_X5_conflictsOf
theorem dX5_areFreeTogether_0 : decode cX5_areFreeTogether 0 = .ok (.iconst 0, 1) := by decide +kernel
