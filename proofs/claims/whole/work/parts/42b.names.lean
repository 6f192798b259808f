theorem dL_isConflict_8 : decode cL_isConflict 8 = .ok (.ifCond .eq 7, 3) := by decide +kernel
theorem dL_isConflict_11 : decode cL_isConflict 11 = .ok (.lconst 1, 1) := by decide +kernel
theorem dL_isConflict_12 : decode cL_isConflict 12 = .ok (.goto 4, 3) := by decide +kernel
theorem dL_isConflict_15 : decode cL_isConflict 15 = .ok (.lconst 0, 1) := by decide +kernel
theorem dL_isConflict_16 : decode cL_isConflict 16 = .ok (.lastore, 1) := by decide +kernel
theorem dL_isConflict_17 : decode cL_isConflict 17 = .ok (.goto 11, 3) := by decide +kernel
theorem dL_isConflict_20 : decode cL_isConflict 20 = .ok (.astore 4, 2) := by decide +kernel
theorem dL_isConflict_22 : decode cL_isConflict 22 = .ok (.iconst 1, 1) := by decide +kernel
theorem dL_isConflict_23 : decode cL_isConflict 23 = .ok (.ireturn, 1) := by decide +kernel
theorem dL_isConflict_24 : decode cL_isConflict 24 = .ok (.astore 4, 2) := by decide +kernel
theorem dL_isConflict_26 : decode cL_isConflict 26 = .ok (.iconst 2, 1) := by decide +kernel
theorem dL_isConflict_27 : decode cL_isConflict 27 = .ok (.ireturn, 1) := by decide +kernel
theorem dL_isConflict_28 : decode cL_isConflict 28 = .ok (.iconst 0, 1) := by decide +kernel
theorem dL_isConflict_29 : decode cL_isConflict 29 = .ok (.ireturn, 1) := by decide +kernel
set_option maxRecDepth 20000 in
theorem ggL_canTake_X5_canTake : GoodIn wsL_canTake wsX5_canTake := goodIn_ca (goodIn_r _ [6, 7, 8, 9, 5, 10, 11, 12, 13, 14, 15, 16, 17, 18, 19, 20, 21, 22, 23, 24, 25, 26, 27, 28, 29, 30, 31, 32, 33, 34, 35, 36, 37, 38, 39, 40, 41, 42, 43, 44, 45, 46, 47, 48, 49, 50, 51, 52, 53, 54, 55, 56, 57, 58, 59, 60, 61, 62, 63, 64, 65, 66, 67, 68, 69, 70, 71, 72, 73, 74, 75, 76, 77, 78, 79, 80, 81, 82, 83, 84, 85, 86, 87, 88, 89, 90, 91, 92, 93, 94, 95, 96, 97, 98, 99, 100, 101, 102, 103] (by decide +kernel) (by decide +kernel)) (goodIn_sub (fun _ h => List.mem_cons_of_mem _ (List.mem_append_right _ h)) (by decide +kernel))
set_option maxRecDepth 20000 in
theorem gL_canTake_X5_canTake : GoodIn wsL_canTake (wsV RL 44 RX5 yX5_canTake wsX5_canTake) := goodIn_app (goodIn_of _ (by decide +kernel)) ggL_canTake_X5_canTake
theorem dL_canTake_0 : decode cL_canTake 0 = .ok (.aload_n 2, 1) := by decide +kernel
theorem dL_canTake_1 : decode cL_canTake 1 = .ok (.iconst 0, 1) := by decide +kernel
theorem dL_canTake_2 : decode cL_canTake 2 = .ok (.aload_n 0, 1) := by decide +kernel
theorem dL_canTake_3 : decode cL_canTake 3 = .ok (.iload_n 1, 1) := by decide +kernel
theorem dL_canTake_4 : decode cL_canTake 4 = .ok (.invokevirtual 44, 3) := by decide +kernel
theorem dL_canTake_7 : decode cL_canTake 7 = .ok (.ifCond .eq 7, 3) := by decide +kernel
theorem dL_canTake_10 : decode cL_canTake 10 = .ok (.lconst 1, 1) := by decide +kernel
theorem dL_canTake_11 : decode cL_canTake 11 = .ok (.goto 4, 3) := by decide +kernel
theorem dL_canTake_14 : decode cL_canTake 14 = .ok (.lconst 0, 1) := by decide +kernel
theorem dL_canTake_15 : decode cL_canTake 15 = .ok (.lastore, 1) := by decide +kernel
theorem dL_canTake_16 : decode cL_canTake 16 = .ok (.goto 6, 3) := by decide +kernel
theorem dL_canTake_19 : decode cL_canTake 19 = .ok (.astore_n 3, 1) := by decide +kernel
theorem dL_canTake_20 : decode cL_canTake 20 = .ok (.iconst 1, 1) := by decide +kernel
theorem dL_canTake_21 : decode cL_canTake 21 = .ok (.ireturn, 1) := by decide +kernel
theorem dL_canTake_22 : decode cL_canTake 22 = .ok (.iconst 0, 1) := by decide +kernel
theorem dL_canTake_23 : decode cL_canTake 23 = .ok (.ireturn, 1) := by decide +kernel
set_option maxRecDepth 20000 in
theorem ggL_weight_X5_weight : GoodIn wsL_weight wsX5_weight := goodIn_ca (goodIn_r _ [6, 7, 8, 9, 10, 11, 5, 12, 13, 14, 15, 16, 17, 18, 19, 20, 21, 22, 23, 24, 25, 26, 27, 28, 29, 30, 31, 32, 33, 34, 35, 36, 37, 38, 39, 40, 41, 42, 43, 44, 45, 46, 47, 48, 49, 50, 51, 52, 53, 54, 55, 56, 57, 58, 59, 60, 61, 62, 63, 64, 65, 66, 67, 68, 69, 70, 71, 72, 73, 74] (by decide +kernel) (by decide +kernel)) (goodIn_sub (fun _ h => List.mem_cons_of_mem _ (List.mem_append_right _ h)) (by decide +kernel))
set_option maxRecDepth 20000 in
theorem gL_weight_X5_weight : GoodIn wsL_weight (wsV RL 48 RX5 yX5_weight wsX5_weight) := goodIn_app (goodIn_of _ (by decide +kernel)) ggL_weight_X5_weight
theorem dL_weight_0 : decode cL_weight 0 = .ok (.aload_n 2, 1) := by decide +kernel
theorem dL_weight_1 : decode cL_weight 1 = .ok (.iconst 0, 1) := by decide +kernel
theorem dL_weight_2 : decode cL_weight 2 = .ok (.aload_n 0, 1) := by decide +kernel
theorem dL_weight_3 : decode cL_weight 3 = .ok (.iload_n 1, 1) := by decide +kernel
theorem dL_weight_4 : decode cL_weight 4 = .ok (.invokevirtual 48, 3) := by decide +kernel
theorem dL_weight_7 : decode cL_weight 7 = .ok (.i2l, 1) := by decide +kernel
theorem dL_weight_8 : decode cL_weight 8 = .ok (.lastore, 1) := by decide +kernel
theorem dL_weight_9 : decode cL_weight 9 = .ok (.goto 6, 3) := by decide +kernel
theorem dL_weight_12 : decode cL_weight 12 = .ok (.astore_n 3, 1) := by decide +kernel
theorem dL_weight_13 : decode cL_weight 13 = .ok (.iconst 1, 1) := by decide +kernel
theorem dL_weight_14 : decode cL_weight 14 = .ok (.ireturn, 1) := by decide +kernel
theorem dL_weight_15 : decode cL_weight 15 = .ok (.iconst 0, 1) := by decide +kernel
theorem dL_weight_16 : decode cL_weight 16 = .ok (.ireturn, 1) := by decide +kernel
set_option maxRecDepth 20000 in
theorem ggL_take_X5_take : GoodIn wsL_take wsX5_take := goodIn_ca (goodIn_ca (goodIn_r _ [7, 8, 9, 10, 11, 12, 13, 14, 15, 6, 16, 17, 18, 19, 20, 21, 22, 23, 24, 25, 26, 27, 28, 29, 30, 31, 32, 33, 34, 35, 36, 37, 38, 39, 40, 41, 42, 43, 44, 45, 46, 47, 48, 49, 50, 51, 52, 53, 54, 55, 56, 57, 58, 59, 60, 61, 62, 63, 64, 65, 66, 67, 68, 69, 70, 71, 72, 73, 74, 75, 76, 77, 78, 79, 80, 81, 82, 83, 84, 85, 86, 87, 88, 89, 90, 91, 92, 93, 94, 95, 96, 97, 98, 99, 100, 101, 102, 103, 104, 105, 106, 107, 108, 109, 110, 111, 112, 113, 114, 115, 116, 117, 118, 119, 120, 121] (by decide +kernel) (by decide +kernel)) (goodIn_sub (fun _ h => List.mem_cons_of_mem _ (List.mem_append_left _ (List.mem_append_right _ h))) (by decide +kernel))) (goodIn_sub (fun _ h => List.mem_cons_of_mem _ (List.mem_append_right _ h)) (by decide +kernel))
set_option maxRecDepth 20000 in
theorem gL_take_X5_take : GoodIn wsL_take (wsV RL 51 RX5 yX5_take wsX5_take) := goodIn_app (goodIn_of _ (by decide +kernel)) ggL_take_X5_take
theorem dL_take_0 : decode cL_take 0 = .ok (.aload_n 2, 1) := by decide +kernel
theorem dL_take_1 : decode cL_take 1 = .ok (.iconst 0, 1) := by decide +kernel
theorem dL_take_2 : decode cL_take 2 = .ok (.aload_n 0, 1) := by decide +kernel
theorem dL_take_3 : decode cL_take 3 = .ok (.iload_n 1, 1) := by decide +kernel
theorem dL_take_4 : decode cL_take 4 = .ok (.invokevirtual 51, 3) := by decide +kernel
theorem dL_take_7 : decode cL_take 7 = .ok (.i2l, 1) := by decide +kernel
theorem dL_take_8 : decode cL_take 8 = .ok (.lastore, 1) := by decide +kernel
theorem dL_take_9 : decode cL_take 9 = .ok (.goto 9, 3) := by decide +kernel
theorem dL_take_12 : decode cL_take 12 = .ok (.astore_n 3, 1) := by decide +kernel
theorem dL_take_13 : decode cL_take 13 = .ok (.iconst 1, 1) := by decide +kernel
theorem dL_take_14 : decode cL_take 14 = .ok (.ireturn, 1) := by decide +kernel
theorem dL_take_15 : decode cL_take 15 = .ok (.astore_n 3, 1) := by decide +kernel
theorem dL_take_16 : decode cL_take 16 = .ok (.iconst 2, 1) := by decide +kernel
theorem dL_take_17 : decode cL_take 17 = .ok (.ireturn, 1) := by decide +kernel
theorem dL_take_18 : decode cL_take 18 = .ok (.iconst 0, 1) := by decide +kernel
theorem dL_take_19 : decode cL_take 19 = .ok (.ireturn, 1) := by decide +kernel
set_option maxRecDepth 20000 in
theorem ggL_giveUp_X5_giveUp : GoodIn wsL_giveUp wsX5_giveUp := goodIn_ca (goodIn_ca (goodIn_r _ [7, 8, 9, 10, 11, 12, 13, 14, 15, 6, 16, 17, 18, 19, 20, 21, 22, 23, 24, 25, 26, 27, 28, 29, 30, 31, 32, 33, 34, 35, 36, 37, 38, 39, 40, 41, 42, 43, 44, 45, 46, 47, 48, 49, 50, 51, 52, 53, 54, 55, 56, 57, 58, 59, 60, 61, 62, 63, 64] (by decide +kernel) (by decide +kernel)) (goodIn_sub (fun _ h => List.mem_cons_of_mem _ (List.mem_append_left _ (List.mem_append_right _ h))) (by decide +kernel))) (goodIn_sub (fun _ h => List.mem_cons_of_mem _ (List.mem_append_right _ h)) (by decide +kernel))
set_option maxRecDepth 20000 in
theorem gL_giveUp_X5_giveUp : GoodIn wsL_giveUp (wsV RL 54 RX5 yX5_giveUp wsX5_giveUp) := goodIn_app (goodIn_of _ (by decide +kernel)) ggL_giveUp_X5_giveUp
theorem dL_giveUp_0 : decode cL_giveUp 0 = .ok (.aload_n 2, 1) := by decide +kernel
theorem dL_giveUp_1 : decode cL_giveUp 1 = .ok (.iconst 0, 1) := by decide +kernel
theorem dL_giveUp_2 : decode cL_giveUp 2 = .ok (.aload_n 0, 1) := by decide +kernel
theorem dL_giveUp_3 : decode cL_giveUp 3 = .ok (.iload_n 1, 1) := by decide +kernel
theorem dL_giveUp_4 : decode cL_giveUp 4 = .ok (.invokevirtual 54, 3) := by decide +kernel
theorem dL_giveUp_7 : decode cL_giveUp 7 = .ok (.i2l, 1) := by decide +kernel
theorem dL_giveUp_8 : decode cL_giveUp 8 = .ok (.lastore, 1) := by decide +kernel
theorem dL_giveUp_9 : decode cL_giveUp 9 = .ok (.goto 9, 3) := by decide +kernel
theorem dL_giveUp_12 : decode cL_giveUp 12 = .ok (.astore_n 3, 1) := by decide +kernel
theorem dL_giveUp_13 : decode cL_giveUp 13 = .ok (.iconst 1, 1) := by decide +kernel
theorem dL_giveUp_14 : decode cL_giveUp 14 = .ok (.ireturn, 1) := by decide +kernel
theorem dL_giveUp_15 : decode cL_giveUp 15 = .ok (.astore_n 3, 1) := by decide +kernel
theorem dL_giveUp_16 : decode cL_giveUp 16 = .ok (.iconst 2, 1) := by decide +kernel
theorem dL_giveUp_17 : decode cL_giveUp 17 = .ok (.ireturn, 1) := by decide +kernel
theorem dL_giveUp_18 : decode cL_giveUp 18 = .ok (.iconst 0, 1) := by decide +kernel
theorem dL_giveUp_19 : decode cL_giveUp 19 = .ok (.ireturn, 1) := by decide +kernel
set_option maxRecDepth 20000 in
theorem ggL_handovers_X5_handovers : GoodIn wsL_handovers wsX5_handovers := goodIn_ca (goodIn_r _ [6, 7, 8, 9, 10, 11, 12, 13, 14, 5, 15, 16, 17, 18, 19, 20, 21, 22, 23, 24, 25, 26, 27, 28, 29, 30, 31, 32, 33, 34, 35, 36, 37, 38, 39, 40, 41, 42, 43, 44, 45, 46, 47, 48, 49, 50, 51, 52, 53, 54, 55, 56, 57, 58, 59, 60, 61, 62, 63, 64, 65, 66, 67, 68, 69, 70, 71, 72, 73, 74, 75] (by decide +kernel) (by decide +kernel)) (goodIn_sub (fun _ h => List.mem_cons_of_mem _ (List.mem_append_right _ h)) (by decide +kernel))
set_option maxRecDepth 20000 in
theorem gL_handovers_X5_handovers : GoodIn wsL_handovers (wsV RL 57 RX5 yX5_handovers wsX5_handovers) := goodIn_app (goodIn_of _ (by decide +kernel)) ggL_handovers_X5_handovers
theorem dL_handovers_0 : decode cL_handovers 0 = .ok (.aload_n 2, 1) := by decide +kernel
theorem dL_handovers_1 : decode cL_handovers 1 = .ok (.iconst 0, 1) := by decide +kernel
theorem dL_handovers_2 : decode cL_handovers 2 = .ok (.aload_n 0, 1) := by decide +kernel
theorem dL_handovers_3 : decode cL_handovers 3 = .ok (.iload_n 1, 1) := by decide +kernel
theorem dL_handovers_4 : decode cL_handovers 4 = .ok (.invokevirtual 57, 3) := by decide +kernel
theorem dL_handovers_7 : decode cL_handovers 7 = .ok (.i2l, 1) := by decide +kernel
theorem dL_handovers_8 : decode cL_handovers 8 = .ok (.lastore, 1) := by decide +kernel
theorem dL_handovers_9 : decode cL_handovers 9 = .ok (.goto 6, 3) := by decide +kernel
theorem dL_handovers_12 : decode cL_handovers 12 = .ok (.astore_n 3, 1) := by decide +kernel
theorem dL_handovers_13 : decode cL_handovers 13 = .ok (.iconst 1, 1) := by decide +kernel
theorem dL_handovers_14 : decode cL_handovers 14 = .ok (.ireturn, 1) := by decide +kernel
theorem dL_handovers_15 : decode cL_handovers 15 = .ok (.iconst 0, 1) := by decide +kernel
theorem dL_handovers_16 : decode cL_handovers 16 = .ok (.ireturn, 1) := by decide +kernel
set_option maxRecDepth 20000 in
theorem ggL_run_X5_run : GoodIn wsL_run wsX5_run := goodIn_ca (goodIn_ca (goodIn_r _ [7, 8, 9, 10, 11, 12, 13, 14, 6, 15, 16, 17, 18, 19, 20, 21, 22, 23, 24, 25, 26, 27, 28, 29, 30, 31, 32, 33, 34, 35, 36, 37, 38, 39, 40, 41, 42, 43, 44, 45, 46, 47, 48, 49, 50, 51, 52, 53, 54, 55, 56, 57, 58, 59, 60, 61, 62, 63, 64, 65, 66, 67, 68, 69, 70, 71, 72, 73, 74, 75, 76, 77, 78, 79, 80, 81, 82, 83, 84, 85, 86, 87, 88, 89, 90, 91, 92, 93, 94, 95, 96, 97, 98, 99, 100, 101, 102, 103, 104, 105, 106, 107, 108, 109, 110, 111, 112, 113, 114, 115, 116, 117, 118, 119, 120, 121, 122, 123, 124, 125, 126, 127, 128, 129, 130, 131, 132, 133, 134, 135, 136, 137, 138, 139, 140, 141, 142, 143, 144, 145] (by decide +kernel) (by decide +kernel)) (goodIn_sub (fun _ h => List.mem_cons_of_mem _ (List.mem_append_left _ (List.mem_append_right _ h))) (by decide +kernel))) (goodIn_sub (fun _ h => List.mem_cons_of_mem _ (List.mem_append_right _ h)) (by decide +kernel))
set_option maxRecDepth 20000 in
theorem gL_run_X5_run : GoodIn wsL_run (wsV RL 60 RX5 yX5_run wsX5_run) := goodIn_app (goodIn_of _ (by decide +kernel)) ggL_run_X5_run
theorem dL_run_0 : decode cL_run 0 = .ok (.aload_n 2, 1) := by decide +kernel
theorem dL_run_1 : decode cL_run 1 = .ok (.iconst 0, 1) := by decide +kernel
theorem dL_run_2 : decode cL_run 2 = .ok (.aload_n 0, 1) := by decide +kernel
theorem dL_run_3 : decode cL_run 3 = .ok (.iload_n 1, 1) := by decide +kernel
theorem dL_run_4 : decode cL_run 4 = .ok (.invokevirtual 60, 3) := by decide +kernel
theorem dL_run_7 : decode cL_run 7 = .ok (.i2l, 1) := by decide +kernel
theorem dL_run_8 : decode cL_run 8 = .ok (.lastore, 1) := by decide +kernel
theorem dL_run_9 : decode cL_run 9 = .ok (.goto 9, 3) := by decide +kernel
theorem dL_run_12 : decode cL_run 12 = .ok (.astore_n 3, 1) := by decide +kernel
theorem dL_run_13 : decode cL_run 13 = .ok (.iconst 1, 1) := by decide +kernel
theorem dL_run_14 : decode cL_run 14 = .ok (.ireturn, 1) := by decide +kernel
theorem dL_run_15 : decode cL_run 15 = .ok (.astore_n 3, 1) := by decide +kernel
theorem dL_run_16 : decode cL_run 16 = .ok (.iconst 2, 1) := by decide +kernel
theorem dL_run_17 : decode cL_run 17 = .ok (.ireturn, 1) := by decide +kernel
theorem dL_run_18 : decode cL_run 18 = .ok (.iconst 0, 1) := by decide +kernel
theorem dL_run_19 : decode cL_run 19 = .ok (.ireturn, 1) := by decide +kernel
set_option maxRecDepth 20000 in
theorem ggL_satellite_X5_satellite : GoodIn wsL_satellite wsX5_satellite := goodIn_ca (goodIn_r _ [6, 7, 8, 9, 10, 11, 12, 13, 14, 5, 15, 16, 17, 18, 19, 20, 21, 22, 23, 24, 25, 26, 27, 28, 29, 30, 31, 32, 33, 34, 35, 36, 37, 38, 39, 40, 41, 42, 43, 44, 45, 46, 47, 48, 49, 50, 51, 52, 53, 54, 55, 56, 57, 58, 59, 60, 61, 62, 63, 64, 65] (by decide +kernel) (by decide +kernel)) (goodIn_sub (fun _ h => List.mem_cons_of_mem _ (List.mem_append_right _ h)) (by decide +kernel))
set_option maxRecDepth 20000 in
theorem gL_satellite_X5_satellite : GoodIn wsL_satellite (wsV RL 63 RX5 yX5_satellite wsX5_satellite) := goodIn_app (goodIn_of _ (by decide +kernel)) ggL_satellite_X5_satellite
theorem dL_satellite_0 : decode cL_satellite 0 = .ok (.aload_n 3, 1) := by decide +kernel
theorem dL_satellite_1 : decode cL_satellite 1 = .ok (.iconst 0, 1) := by decide +kernel
theorem dL_satellite_2 : decode cL_satellite 2 = .ok (.aload_n 0, 1) := by decide +kernel
theorem dL_satellite_3 : decode cL_satellite 3 = .ok (.iload_n 1, 1) := by decide +kernel
theorem dL_satellite_4 : decode cL_satellite 4 = .ok (.iload_n 2, 1) := by decide +kernel
theorem dL_satellite_5 : decode cL_satellite 5 = .ok (.invokevirtual 63, 3) := by decide +kernel
theorem dL_satellite_8 : decode cL_satellite 8 = .ok (.i2l, 1) := by decide +kernel
theorem dL_satellite_9 : decode cL_satellite 9 = .ok (.lastore, 1) := by decide +kernel
theorem dL_satellite_10 : decode cL_satellite 10 = .ok (.goto 7, 3) := by decide +kernel
theorem dL_satellite_13 : decode cL_satellite 13 = .ok (.astore 4, 2) := by decide +kernel
theorem dL_satellite_15 : decode cL_satellite 15 = .ok (.iconst 1, 1) := by decide +kernel
theorem dL_satellite_16 : decode cL_satellite 16 = .ok (.ireturn, 1) := by decide +kernel
theorem dL_satellite_17 : decode cL_satellite 17 = .ok (.iconst 0, 1) := by decide +kernel
theorem dL_satellite_18 : decode cL_satellite 18 = .ok (.ireturn, 1) := by decide +kernel
set_option maxRecDepth 20000 in
theorem ggL_antenna_X5_antenna : GoodIn wsL_antenna wsX5_antenna := goodIn_ca (goodIn_r _ [6, 7, 8, 9, 10, 11, 12, 13, 5, 14, 15, 16, 17, 18, 19, 20, 21, 22, 23, 24, 25, 26, 27, 28, 29, 30, 31, 32, 33, 34, 35, 36, 37, 38, 39, 40, 41, 42, 43, 44, 45, 46, 47, 48, 49, 50, 51, 52, 53, 54, 55, 56, 57, 58, 59, 60, 61, 62, 63, 64, 65, 66, 67, 68, 69, 70, 71, 72, 73, 74, 75, 76, 77, 78, 79, 80, 81, 82, 83, 84, 85, 86, 87, 88, 89, 90, 91, 92, 93, 94, 95, 96, 97, 98, 99, 100, 101, 102, 103, 104, 105, 106, 107, 108, 109, 110, 111, 112] (by decide +kernel) (by decide +kernel)) (goodIn_sub (fun _ h => List.mem_cons_of_mem _ (List.mem_append_right _ h)) (by decide +kernel))
set_option maxRecDepth 20000 in
theorem gL_antenna_X5_antenna : GoodIn wsL_antenna (wsV RL 66 RX5 yX5_antenna wsX5_antenna) := goodIn_app (goodIn_of _ (by decide +kernel)) ggL_antenna_X5_antenna
theorem dL_antenna_0 : decode cL_antenna 0 = .ok (.aload_n 3, 1) := by decide +kernel
theorem dL_antenna_1 : decode cL_antenna 1 = .ok (.iconst 0, 1) := by decide +kernel
theorem dL_antenna_2 : decode cL_antenna 2 = .ok (.aload_n 0, 1) := by decide +kernel
theorem dL_antenna_3 : decode cL_antenna 3 = .ok (.iload_n 1, 1) := by decide +kernel
theorem dL_antenna_4 : decode cL_antenna 4 = .ok (.iload_n 2, 1) := by decide +kernel
theorem dL_antenna_5 : decode cL_antenna 5 = .ok (.invokevirtual 66, 3) := by decide +kernel
