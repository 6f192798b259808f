theorem dL_addAntenna_0 : decode cL_addAntenna 0 = .ok (.aload 4, 2) := by decide +kernel
theorem dL_addAntenna_2 : decode cL_addAntenna 2 = .ok (.iconst 0, 1) := by decide +kernel
theorem dL_addAntenna_3 : decode cL_addAntenna 3 = .ok (.aload_n 0, 1) := by decide +kernel
theorem dL_addAntenna_4 : decode cL_addAntenna 4 = .ok (.iload_n 1, 1) := by decide +kernel
theorem dL_addAntenna_5 : decode cL_addAntenna 5 = .ok (.iload_n 2, 1) := by decide +kernel
theorem dL_addAntenna_6 : decode cL_addAntenna 6 = .ok (.iload_n 3, 1) := by decide +kernel
theorem dL_addAntenna_7 : decode cL_addAntenna 7 = .ok (.invokevirtual 7, 3) := by decide +kernel
theorem dL_addAntenna_10 : decode cL_addAntenna 10 = .ok (.i2l, 1) := by decide +kernel
theorem dL_addAntenna_11 : decode cL_addAntenna 11 = .ok (.lastore, 1) := by decide +kernel
theorem dL_addAntenna_12 : decode cL_addAntenna 12 = .ok (.goto 11, 3) := by decide +kernel
theorem dL_addAntenna_15 : decode cL_addAntenna 15 = .ok (.astore 5, 2) := by decide +kernel
theorem dL_addAntenna_17 : decode cL_addAntenna 17 = .ok (.iconst 1, 1) := by decide +kernel
theorem dL_addAntenna_18 : decode cL_addAntenna 18 = .ok (.ireturn, 1) := by decide +kernel
theorem dL_addAntenna_19 : decode cL_addAntenna 19 = .ok (.astore 5, 2) := by decide +kernel
theorem dL_addAntenna_21 : decode cL_addAntenna 21 = .ok (.iconst 2, 1) := by decide +kernel
theorem dL_addAntenna_22 : decode cL_addAntenna 22 = .ok (.ireturn, 1) := by decide +kernel
theorem dL_addAntenna_23 : decode cL_addAntenna 23 = .ok (.iconst 0, 1) := by decide +kernel
theorem dL_addAntenna_24 : decode cL_addAntenna 24 = .ok (.ireturn, 1) := by decide +kernel
set_option maxRecDepth 20000 in
theorem ggL_addSatellite_X5_addSatellite : GoodIn wsL_addSatellite wsX5_addSatellite := goodIn_ca (goodIn_ca (goodIn_r _ [7, 8, 9, 10, 11, 12, 13, 14, 15, 16, 17, 18, 6, 19, 20, 21, 22, 23, 24, 25, 26, 27, 28, 29, 30, 31, 32, 33, 34, 35, 36, 37, 38, 39, 40, 41, 42, 43, 44, 45, 46, 47, 48, 49, 50, 51, 52, 53, 54, 55, 56, 57, 58, 59, 60, 61, 62, 63, 64, 65, 66, 67, 68, 69, 70, 71, 72, 73, 74, 75, 76, 77, 78, 79, 80, 81, 82, 83, 84, 85, 86, 87, 88, 89, 90, 91, 92, 93, 94, 95, 96, 97, 98, 99, 100, 101, 102, 103, 104, 105, 106, 107, 108, 109, 110, 111] (by decide +kernel) (by decide +kernel)) (goodIn_sub (fun _ h => List.mem_cons_of_mem _ (List.mem_append_left _ (List.mem_append_right _ h))) (by decide +kernel))) (goodIn_sub (fun _ h => List.mem_cons_of_mem _ (List.mem_append_right _ h)) (by decide +kernel))
set_option maxRecDepth 20000 in
theorem gL_addSatellite_X5_addSatellite : GoodIn wsL_addSatellite (wsV RL 17 RX5 yX5_addSatellite wsX5_addSatellite) := goodIn_app (goodIn_of _ (by decide +kernel)) ggL_addSatellite_X5_addSatellite
theorem dL_addSatellite_0 : decode cL_addSatellite 0 = .ok (.aload 5, 2) := by decide +kernel
theorem dL_addSatellite_2 : decode cL_addSatellite 2 = .ok (.iconst 0, 1) := by decide +kernel
theorem dL_addSatellite_3 : decode cL_addSatellite 3 = .ok (.aload_n 0, 1) := by decide +kernel
theorem dL_addSatellite_4 : decode cL_addSatellite 4 = .ok (.iload_n 1, 1) := by decide +kernel
theorem dL_addSatellite_5 : decode cL_addSatellite 5 = .ok (.iload_n 2, 1) := by decide +kernel
theorem dL_addSatellite_6 : decode cL_addSatellite 6 = .ok (.iload_n 3, 1) := by decide +kernel
theorem dL_addSatellite_7 : decode cL_addSatellite 7 = .ok (.iload 4, 2) := by decide +kernel
theorem dL_addSatellite_9 : decode cL_addSatellite 9 = .ok (.invokevirtual 17, 3) := by decide +kernel
theorem dL_addSatellite_12 : decode cL_addSatellite 12 = .ok (.i2l, 1) := by decide +kernel
theorem dL_addSatellite_13 : decode cL_addSatellite 13 = .ok (.lastore, 1) := by decide +kernel
theorem dL_addSatellite_14 : decode cL_addSatellite 14 = .ok (.goto 11, 3) := by decide +kernel
theorem dL_addSatellite_17 : decode cL_addSatellite 17 = .ok (.astore 6, 2) := by decide +kernel
theorem dL_addSatellite_19 : decode cL_addSatellite 19 = .ok (.iconst 1, 1) := by decide +kernel
theorem dL_addSatellite_20 : decode cL_addSatellite 20 = .ok (.ireturn, 1) := by decide +kernel
theorem dL_addSatellite_21 : decode cL_addSatellite 21 = .ok (.astore 6, 2) := by decide +kernel
theorem dL_addSatellite_23 : decode cL_addSatellite 23 = .ok (.iconst 2, 1) := by decide +kernel
theorem dL_addSatellite_24 : decode cL_addSatellite 24 = .ok (.ireturn, 1) := by decide +kernel
theorem dL_addSatellite_25 : decode cL_addSatellite 25 = .ok (.iconst 0, 1) := by decide +kernel
theorem dL_addSatellite_26 : decode cL_addSatellite 26 = .ok (.ireturn, 1) := by decide +kernel
set_option maxRecDepth 20000 in
theorem ggL_addPass_X5_addPass : GoodIn wsL_addPass wsX5_addPass := goodIn_ca (goodIn_ca (goodIn_ca (goodIn_r _ [8, 9, 10, 11, 12, 13, 14, 15, 16, 17, 18, 19, 20, 21, 7, 22, 23, 24, 25, 26, 27, 28, 29, 30, 31, 32, 33, 34, 35, 36, 37, 38, 39, 40, 41, 42, 43, 44, 45, 46, 47, 48, 49, 50, 51, 52, 53, 54, 55, 56, 57, 58, 59, 60, 61, 62, 63, 64, 65, 66, 67, 68, 69, 70, 71, 72, 73, 74, 75, 76, 77, 78, 79, 80, 81, 82, 83, 84, 85, 86, 87, 88, 89, 90, 91, 92, 93, 94, 95, 96, 97, 98, 99, 100, 101, 102, 103, 104, 105, 106, 107, 108, 109, 110, 111, 112, 113, 114, 115, 116, 117, 118, 119, 120, 121, 122, 123, 124, 125, 126, 127, 128, 129, 130, 131, 132, 133, 134, 135, 136, 137, 138, 139, 140, 141, 142, 143, 144, 145, 146, 147, 148, 149, 150, 151, 152, 153, 154, 155, 156, 157, 158, 159] (by decide +kernel) (by decide +kernel)) (goodIn_sub (fun _ h => List.mem_cons_of_mem _ (List.mem_append_left _ (List.mem_append_left _ (List.mem_append_right _ h)))) (by decide +kernel))) (goodIn_sub (fun _ h => List.mem_cons_of_mem _ (List.mem_append_left _ (List.mem_append_right _ h))) (by decide +kernel))) (goodIn_sub (fun _ h => List.mem_cons_of_mem _ (List.mem_append_right _ h)) (by decide +kernel))
set_option maxRecDepth 20000 in
theorem gL_addPass_X5_addPass : GoodIn wsL_addPass (wsV RL 21 RX5 yX5_addPass wsX5_addPass) := goodIn_app (goodIn_of _ (by decide +kernel)) ggL_addPass_X5_addPass
theorem dL_addPass_0 : decode cL_addPass 0 = .ok (.aload 5, 2) := by decide +kernel
theorem dL_addPass_2 : decode cL_addPass 2 = .ok (.iconst 0, 1) := by decide +kernel
theorem dL_addPass_3 : decode cL_addPass 3 = .ok (.aload_n 0, 1) := by decide +kernel
theorem dL_addPass_4 : decode cL_addPass 4 = .ok (.iload_n 1, 1) := by decide +kernel
theorem dL_addPass_5 : decode cL_addPass 5 = .ok (.iload_n 2, 1) := by decide +kernel
theorem dL_addPass_6 : decode cL_addPass 6 = .ok (.iload_n 3, 1) := by decide +kernel
theorem dL_addPass_7 : decode cL_addPass 7 = .ok (.iload 4, 2) := by decide +kernel
theorem dL_addPass_9 : decode cL_addPass 9 = .ok (.invokevirtual 21, 3) := by decide +kernel
theorem dL_addPass_12 : decode cL_addPass 12 = .ok (.i2l, 1) := by decide +kernel
theorem dL_addPass_13 : decode cL_addPass 13 = .ok (.lastore, 1) := by decide +kernel
theorem dL_addPass_14 : decode cL_addPass 14 = .ok (.goto 15, 3) := by decide +kernel
theorem dL_addPass_17 : decode cL_addPass 17 = .ok (.astore 6, 2) := by decide +kernel
theorem dL_addPass_19 : decode cL_addPass 19 = .ok (.iconst 1, 1) := by decide +kernel
theorem dL_addPass_20 : decode cL_addPass 20 = .ok (.ireturn, 1) := by decide +kernel
theorem dL_addPass_21 : decode cL_addPass 21 = .ok (.astore 6, 2) := by decide +kernel
theorem dL_addPass_23 : decode cL_addPass 23 = .ok (.iconst 2, 1) := by decide +kernel
theorem dL_addPass_24 : decode cL_addPass 24 = .ok (.ireturn, 1) := by decide +kernel
theorem dL_addPass_25 : decode cL_addPass 25 = .ok (.astore 6, 2) := by decide +kernel
theorem dL_addPass_27 : decode cL_addPass 27 = .ok (.iconst 3, 1) := by decide +kernel
theorem dL_addPass_28 : decode cL_addPass 28 = .ok (.ireturn, 1) := by decide +kernel
theorem dL_addPass_29 : decode cL_addPass 29 = .ok (.iconst 0, 1) := by decide +kernel
theorem dL_addPass_30 : decode cL_addPass 30 = .ok (.ireturn, 1) := by decide +kernel
set_option maxRecDepth 20000 in
theorem ggL_addOutage_X5_addOutage : GoodIn wsL_addOutage wsX5_addOutage := goodIn_ca (goodIn_ca (goodIn_ca (goodIn_r _ [8, 9, 10, 11, 12, 13, 14, 15, 16, 17, 7, 18, 19, 20, 21, 22, 23, 24, 25, 26, 27, 28, 29, 30, 31, 32, 33, 34, 35, 36, 37, 38, 39, 40, 41, 42, 43, 44, 45, 46, 47, 48, 49, 50, 51, 52, 53, 54, 55, 56, 57, 58, 59, 60, 61, 62, 63, 64, 65, 66, 67, 68, 69, 70, 71, 72, 73, 74, 75, 76, 77, 78, 79, 80, 81, 82, 83, 84, 85, 86, 87, 88, 89, 90, 91, 92, 93, 94, 95, 96, 97, 98, 99, 100, 101, 102, 103, 104, 105, 106, 107, 108, 109, 110, 111, 112, 113, 114, 115, 116, 117, 118, 119, 120, 121, 122, 123, 124, 125, 126, 127, 128, 129, 130, 131, 132, 133, 134, 135, 136, 137, 138, 139, 140, 141, 142, 143, 144, 145, 146, 147, 148, 149] (by decide +kernel) (by decide +kernel)) (goodIn_sub (fun _ h => List.mem_cons_of_mem _ (List.mem_append_left _ (List.mem_append_left _ (List.mem_append_right _ h)))) (by decide +kernel))) (goodIn_sub (fun _ h => List.mem_cons_of_mem _ (List.mem_append_left _ (List.mem_append_right _ h))) (by decide +kernel))) (goodIn_sub (fun _ h => List.mem_cons_of_mem _ (List.mem_append_right _ h)) (by decide +kernel))
set_option maxRecDepth 20000 in
theorem gL_addOutage_X5_addOutage : GoodIn wsL_addOutage (wsV RL 26 RX5 yX5_addOutage wsX5_addOutage) := goodIn_app (goodIn_of _ (by decide +kernel)) ggL_addOutage_X5_addOutage
theorem dL_addOutage_0 : decode cL_addOutage 0 = .ok (.aload 4, 2) := by decide +kernel
theorem dL_addOutage_2 : decode cL_addOutage 2 = .ok (.iconst 0, 1) := by decide +kernel
theorem dL_addOutage_3 : decode cL_addOutage 3 = .ok (.aload_n 0, 1) := by decide +kernel
theorem dL_addOutage_4 : decode cL_addOutage 4 = .ok (.iload_n 1, 1) := by decide +kernel
theorem dL_addOutage_5 : decode cL_addOutage 5 = .ok (.iload_n 2, 1) := by decide +kernel
theorem dL_addOutage_6 : decode cL_addOutage 6 = .ok (.iload_n 3, 1) := by decide +kernel
theorem dL_addOutage_7 : decode cL_addOutage 7 = .ok (.invokevirtual 26, 3) := by decide +kernel
theorem dL_addOutage_10 : decode cL_addOutage 10 = .ok (.i2l, 1) := by decide +kernel
theorem dL_addOutage_11 : decode cL_addOutage 11 = .ok (.lastore, 1) := by decide +kernel
theorem dL_addOutage_12 : decode cL_addOutage 12 = .ok (.goto 15, 3) := by decide +kernel
theorem dL_addOutage_15 : decode cL_addOutage 15 = .ok (.astore 5, 2) := by decide +kernel
theorem dL_addOutage_17 : decode cL_addOutage 17 = .ok (.iconst 1, 1) := by decide +kernel
theorem dL_addOutage_18 : decode cL_addOutage 18 = .ok (.ireturn, 1) := by decide +kernel
theorem dL_addOutage_19 : decode cL_addOutage 19 = .ok (.astore 5, 2) := by decide +kernel
theorem dL_addOutage_21 : decode cL_addOutage 21 = .ok (.iconst 2, 1) := by decide +kernel
theorem dL_addOutage_22 : decode cL_addOutage 22 = .ok (.ireturn, 1) := by decide +kernel
theorem dL_addOutage_23 : decode cL_addOutage 23 = .ok (.astore 5, 2) := by decide +kernel
theorem dL_addOutage_25 : decode cL_addOutage 25 = .ok (.iconst 3, 1) := by decide +kernel
theorem dL_addOutage_26 : decode cL_addOutage 26 = .ok (.ireturn, 1) := by decide +kernel
theorem dL_addOutage_27 : decode cL_addOutage 27 = .ok (.iconst 0, 1) := by decide +kernel
theorem dL_addOutage_28 : decode cL_addOutage 28 = .ok (.ireturn, 1) := by decide +kernel
set_option maxRecDepth 20000 in
theorem ggL_setHandover_X5_setHandover : GoodIn wsL_setHandover wsX5_setHandover := goodIn_ca (goodIn_r _ [6, 7, 8, 9, 10, 11, 5, 12, 13, 14, 15, 16, 17, 18, 19] (by decide +kernel) (by decide +kernel)) (goodIn_sub (fun _ h => List.mem_cons_of_mem _ (List.mem_append_right _ h)) (by decide +kernel))
set_option maxRecDepth 20000 in
theorem gL_setHandover_X5_setHandover : GoodIn wsL_setHandover (wsV RL 29 RX5 yX5_setHandover wsX5_setHandover) := goodIn_app (goodIn_of _ (by decide +kernel)) ggL_setHandover_X5_setHandover
theorem dL_setHandover_0 : decode cL_setHandover 0 = .ok (.aload_n 2, 1) := by decide +kernel
theorem dL_setHandover_1 : decode cL_setHandover 1 = .ok (.iconst 0, 1) := by decide +kernel
theorem dL_setHandover_2 : decode cL_setHandover 2 = .ok (.aload_n 0, 1) := by decide +kernel
theorem dL_setHandover_3 : decode cL_setHandover 3 = .ok (.iload_n 1, 1) := by decide +kernel
theorem dL_setHandover_4 : decode cL_setHandover 4 = .ok (.invokevirtual 29, 3) := by decide +kernel
theorem dL_setHandover_7 : decode cL_setHandover 7 = .ok (.i2l, 1) := by decide +kernel
theorem dL_setHandover_8 : decode cL_setHandover 8 = .ok (.lastore, 1) := by decide +kernel
theorem dL_setHandover_9 : decode cL_setHandover 9 = .ok (.goto 6, 3) := by decide +kernel
theorem dL_setHandover_12 : decode cL_setHandover 12 = .ok (.astore_n 3, 1) := by decide +kernel
theorem dL_setHandover_13 : decode cL_setHandover 13 = .ok (.iconst 1, 1) := by decide +kernel
theorem dL_setHandover_14 : decode cL_setHandover 14 = .ok (.ireturn, 1) := by decide +kernel
theorem dL_setHandover_15 : decode cL_setHandover 15 = .ok (.iconst 0, 1) := by decide +kernel
theorem dL_setHandover_16 : decode cL_setHandover 16 = .ok (.ireturn, 1) := by decide +kernel
set_option maxRecDepth 20000 in
theorem ggL_count_X5_count : GoodIn wsL_count wsX5_count := goodIn_ca (goodIn_r _ [6, 7, 8, 9, 10, 11, 12, 13, 14, 15, 16, 17, 18, 19, 20, 21, 22, 23, 24, 25, 26, 27] (by decide +kernel) (by decide +kernel)) (goodIn_sub (fun _ h => List.mem_cons_of_mem _ (List.mem_append_right _ h)) (by decide +kernel))
set_option maxRecDepth 20000 in
theorem gL_count_X5_count : GoodIn wsL_count (wsV RL 33 RX5 yX5_count wsX5_count) := goodIn_app (goodIn_of _ (by decide +kernel)) ggL_count_X5_count
theorem dL_count_0 : decode cL_count 0 = .ok (.aload_n 2, 1) := by decide +kernel
theorem dL_count_1 : decode cL_count 1 = .ok (.iconst 0, 1) := by decide +kernel
theorem dL_count_2 : decode cL_count 2 = .ok (.aload_n 0, 1) := by decide +kernel
theorem dL_count_3 : decode cL_count 3 = .ok (.iload_n 1, 1) := by decide +kernel
theorem dL_count_4 : decode cL_count 4 = .ok (.invokevirtual 33, 3) := by decide +kernel
theorem dL_count_7 : decode cL_count 7 = .ok (.i2l, 1) := by decide +kernel
theorem dL_count_8 : decode cL_count 8 = .ok (.lastore, 1) := by decide +kernel
theorem dL_count_9 : decode cL_count 9 = .ok (.goto 6, 3) := by decide +kernel
theorem dL_count_12 : decode cL_count 12 = .ok (.astore_n 3, 1) := by decide +kernel
theorem dL_count_13 : decode cL_count 13 = .ok (.iconst 1, 1) := by decide +kernel
theorem dL_count_14 : decode cL_count 14 = .ok (.ireturn, 1) := by decide +kernel
theorem dL_count_15 : decode cL_count 15 = .ok (.iconst 0, 1) := by decide +kernel
theorem dL_count_16 : decode cL_count 16 = .ok (.ireturn, 1) := by decide +kernel
set_option maxRecDepth 20000 in
theorem ggL_pass_X5_pass : GoodIn wsL_pass wsX5_pass := goodIn_ca (goodIn_r _ [6, 7, 8, 9, 10, 11, 12, 13, 14, 15, 16, 17, 18, 19, 5, 20, 21, 22, 23, 24, 25, 26, 27, 28, 29, 30, 31, 32, 33, 34, 35, 36, 37, 38, 39, 40, 41, 42, 43, 44, 45, 46, 47, 48, 49, 50, 51, 52, 53, 54, 55, 56, 57, 58, 59, 60, 61, 62, 63, 64, 65, 66, 67, 68, 69, 70, 71, 72, 73, 74, 75, 76, 77, 78, 79, 80, 81, 82, 83, 84, 85, 86, 87, 88, 89, 90, 91, 92, 93, 94, 95, 96, 97] (by decide +kernel) (by decide +kernel)) (goodIn_sub (fun _ h => List.mem_cons_of_mem _ (List.mem_append_right _ h)) (by decide +kernel))
set_option maxRecDepth 20000 in
theorem gL_pass_X5_pass : GoodIn wsL_pass (wsV RL 36 RX5 yX5_pass wsX5_pass) := goodIn_app (goodIn_of _ (by decide +kernel)) ggL_pass_X5_pass
theorem dL_pass_0 : decode cL_pass 0 = .ok (.aload_n 3, 1) := by decide +kernel
theorem dL_pass_1 : decode cL_pass 1 = .ok (.iconst 0, 1) := by decide +kernel
theorem dL_pass_2 : decode cL_pass 2 = .ok (.aload_n 0, 1) := by decide +kernel
theorem dL_pass_3 : decode cL_pass 3 = .ok (.iload_n 1, 1) := by decide +kernel
theorem dL_pass_4 : decode cL_pass 4 = .ok (.iload_n 2, 1) := by decide +kernel
theorem dL_pass_5 : decode cL_pass 5 = .ok (.invokevirtual 36, 3) := by decide +kernel
theorem dL_pass_8 : decode cL_pass 8 = .ok (.i2l, 1) := by decide +kernel
theorem dL_pass_9 : decode cL_pass 9 = .ok (.lastore, 1) := by decide +kernel
theorem dL_pass_10 : decode cL_pass 10 = .ok (.goto 7, 3) := by decide +kernel
theorem dL_pass_13 : decode cL_pass 13 = .ok (.astore 4, 2) := by decide +kernel
theorem dL_pass_15 : decode cL_pass 15 = .ok (.iconst 1, 1) := by decide +kernel
theorem dL_pass_16 : decode cL_pass 16 = .ok (.ireturn, 1) := by decide +kernel
theorem dL_pass_17 : decode cL_pass 17 = .ok (.iconst 0, 1) := by decide +kernel
theorem dL_pass_18 : decode cL_pass 18 = .ok (.ireturn, 1) := by decide +kernel
set_option maxRecDepth 20000 in
theorem ggL_isConflict_X5_isConflict : GoodIn wsL_isConflict wsX5_isConflict := goodIn_ca (goodIn_ca (goodIn_r _ [7, 8, 9, 10, 11, 12, 6, 13, 14, 15, 16, 17, 18, 19, 20, 21, 22, 23, 24, 25, 26, 27, 28, 29, 30, 31, 32, 33, 34, 35, 36, 37, 38, 39, 40, 41, 42, 43, 44, 45, 46, 47, 48, 49, 50, 51, 52, 53, 54, 55, 56, 57, 58, 59, 60, 61, 62, 63, 64, 65, 66, 67, 68, 69, 70, 71, 72, 73, 74, 75, 76, 77, 78, 79] (by decide +kernel) (by decide +kernel)) (goodIn_sub (fun _ h => List.mem_cons_of_mem _ (List.mem_append_left _ (List.mem_append_right _ h))) (by decide +kernel))) (goodIn_sub (fun _ h => List.mem_cons_of_mem _ (List.mem_append_right _ h)) (by decide +kernel))
set_option maxRecDepth 20000 in
theorem gL_isConflict_X5_isConflict : GoodIn wsL_isConflict (wsV RL 40 RX5 yX5_isConflict wsX5_isConflict) := goodIn_app (goodIn_of _ (by decide +kernel)) ggL_isConflict_X5_isConflict
theorem dL_isConflict_0 : decode cL_isConflict 0 = .ok (.aload_n 3, 1) := by decide +kernel
theorem dL_isConflict_1 : decode cL_isConflict 1 = .ok (.iconst 0, 1) := by decide +kernel
theorem dL_isConflict_2 : decode cL_isConflict 2 = .ok (.aload_n 0, 1) := by decide +kernel
theorem dL_isConflict_3 : decode cL_isConflict 3 = .ok (.iload_n 1, 1) := by decide +kernel
theorem dL_isConflict_4 : decode cL_isConflict 4 = .ok (.iload_n 2, 1) := by decide +kernel
theorem dL_isConflict_5 : decode cL_isConflict 5 = .ok (.invokevirtual 40, 3) := by decide +kernel
theorem dL_isConflict_8 : decode cL_isConflict 8 = .ok (.ifCond .eq 7, 3) := by decide +kernel
theorem dL_isConflict_11 : decode cL_isConflict 11 = .ok (.lconst 1, 1) := by decide +kernel
theorem dL_isConflict_12 : decode cL_isConflict 12 = .ok (.goto 4, 3) := by decide +kernel
theorem dL_isConflict_15 : decode cL_isConflict 15 = .ok (.lconst 0, 1) := by decide +kernel
theorem dL_isConflict_16 : decode cL_isConflict 16 = .ok (.lastore, 1) := by decide +kernel
theorem dL_isConflict_17 : decode cL_isConflict 17 = .ok (.goto 11, 3) := by decide +kernel
theorem dL_isConflict_20 : decode cL_isConflict 20 = .ok (.astore 4, 2) := by decide +kernel
theorem dL_isConflict_22 : decode cL_isConflict 22 = .ok (.iconst 1, 1) := by decide +kernel
theorem dL_isConflict_23 : decode cL_isConflict 23 = .ok (.ireturn, 1) := by decide +kernel
theorem dL_isConflict_24 : decode cL_isConflict 24 = .ok (.astore 4, 2) := by decide +kernel
theorem dL_isConflict_26 : decode cL_isConflict 26 = .ok (.iconst 2, 1) := by decide +kernel
theorem dL_isConflict_27 : decode cL_isConflict 27 = .ok (.ireturn, 1) := by decide +kernel
theorem dL_isConflict_28 : decode cL_isConflict 28 = .ok (.iconst 0, 1) := by decide +kernel
theorem dL_isConflict_29 : decode cL_isConflict 29 = .ok (.ireturn, 1) := by decide +kernel
set_option maxRecDepth 20000 in
theorem ggL_canTake_X5_canTake : GoodIn wsL_canTake wsX5_canTake := goodIn_ca (goodIn_r _ [6, 7, 8, 9, 5, 10, 11, 12, 13, 14, 15, 16, 17, 18, 19, 20, 21, 22, 23, 24, 25, 26, 27, 28, 29, 30, 31, 32, 33, 34, 35, 36, 37, 38, 39, 40, 41, 42, 43, 44, 45, 46, 47, 48, 49, 50, 51, 52, 53, 54, 55, 56, 57, 58, 59, 60, 61, 62, 63, 64, 65, 66, 67, 68, 69, 70, 71, 72, 73, 74, 75, 76, 77, 78, 79, 80, 81, 82, 83, 84, 85, 86, 87, 88, 89, 90, 91, 92, 93, 94, 95, 96, 97, 98, 99, 100, 101, 102, 103] (by decide +kernel) (by decide +kernel)) (goodIn_sub (fun _ h => List.mem_cons_of_mem _ (List.mem_append_right _ h)) (by decide +kernel))
set_option maxRecDepth 20000 in
theorem gL_canTake_X5_canTake : GoodIn wsL_canTake (wsV RL 44 RX5 yX5_canTake wsX5_canTake) := goodIn_app (goodIn_of _ (by decide +kernel)) ggL_canTake_X5_canTake
theorem dL_canTake_0 : decode cL_canTake 0 = .ok (.aload_n 2, 1) := by decide +kernel
theorem dL_canTake_1 : decode cL_canTake 1 = .ok (.iconst 0, 1) := by decide +kernel
theorem dL_canTake_2 : decode cL_canTake 2 = .ok (.aload_n 0, 1) := by decide +kernel
theorem dL_canTake_3 : decode cL_canTake 3 = .ok (.iload_n 1, 1) := by decide +kernel
theorem dL_canTake_4 : decode cL_canTake 4 = .ok (.invokevirtual 44, 3) := by decide +kernel
theorem dL_canTake_7 : decode cL_canTake 7 = .ok (.ifCond .eq 7, 3) := by decide +kernel
theorem dL_canTake_10 : decode cL_canTake 10 = .ok (.lconst 1, 1) := by decide +kernel
theorem dL_canTake_11 : decode cL_canTake 11 = .ok (.goto 4, 3) := by decide +kernel
theorem dL_canTake_14 : decode cL_canTake 14 = .ok (.lconst 0, 1) := by decide +kernel
theorem dL_canTake_15 : decode cL_canTake 15 = .ok (.lastore, 1) := by decide +kernel
theorem dL_canTake_16 : decode cL_canTake 16 = .ok (.goto 6, 3) := by decide +kernel
theorem dL_canTake_19 : decode cL_canTake 19 = .ok (.astore_n 3, 1) := by decide +kernel
theorem dL_canTake_20 : decode cL_canTake 20 = .ok (.iconst 1, 1) := by decide +kernel
theorem dL_canTake_21 : decode cL_canTake 21 = .ok (.ireturn, 1) := by decide +kernel
theorem dL_canTake_22 : decode cL_canTake 22 = .ok (.iconst 0, 1) := by decide +kernel
theorem dL_canTake_23 : decode cL_canTake 23 = .ok (.ireturn, 1) := by decide +kernel
set_option maxRecDepth 20000 in
theorem ggL_weight_X5_weight : GoodIn wsL_weight wsX5_weight := goodIn_ca (goodIn_r _ [6, 7, 8, 9, 10, 11, 5, 12, 13, 14, 15, 16, 17, 18, 19, 20, 21, 22, 23, 24, 25, 26, 27, 28, 29, 30, 31, 32, 33, 34, 35, 36, 37, 38, 39, 40, 41, 42, 43, 44, 45, 46, 47, 48, 49, 50, 51, 52, 53, 54, 55, 56, 57, 58, 59, 60, 61, 62, 63, 64, 65, 66, 67, 68, 69, 70, 71, 72, 73, 74] (by decide +kernel) (by decide +kernel)) (goodIn_sub (fun _ h => List.mem_cons_of_mem _ (List.mem_append_right _ h)) (by decide +kernel))
set_option maxRecDepth 20000 in
theorem gL_weight_X5_weight : GoodIn wsL_weight (wsV RL 48 RX5 yX5_weight wsX5_weight) := goodIn_app (goodIn_of _ (by decide +kernel)) ggL_weight_X5_weight
theorem dL_weight_0 : decode cL_weight 0 = .ok (.aload_n 2, 1) := by decide +kernel
theorem dL_weight_1 : decode cL_weight 1 = .ok (.iconst 0, 1) := by decide +kernel
theorem dL_weight_2 : decode cL_weight 2 = .ok (.aload_n 0, 1) := by decide +kernel
theorem dL_weight_3 : decode cL_weight 3 = .ok (.iload_n 1, 1) := by decide +kernel
theorem dL_weight_4 : decode cL_weight 4 = .ok (.invokevirtual 48, 3) := by decide +kernel
theorem dL_weight_7 : decode cL_weight 7 = .ok (.i2l, 1) := by decide +kernel
theorem dL_weight_8 : decode cL_weight 8 = .ok (.lastore, 1) := by decide +kernel
theorem dL_weight_9 : decode cL_weight 9 = .ok (.goto 6, 3) := by decide +kernel
theorem dL_weight_12 : decode cL_weight 12 = .ok (.astore_n 3, 1) := by decide +kernel
theorem dL_weight_13 : decode cL_weight 13 = .ok (.iconst 1, 1) := by decide +kernel
theorem dL_weight_14 : decode cL_weight 14 = .ok (.ireturn, 1) := by decide +kernel
theorem dL_weight_15 : decode cL_weight 15 = .ok (.iconst 0, 1) := by decide +kernel
theorem dL_weight_16 : decode cL_weight 16 = .ok (.ireturn, 1) := by decide +kernel
set_option maxRecDepth 20000 in
theorem ggL_take_X5_take : GoodIn wsL_take wsX5_take := goodIn_ca (goodIn_ca (goodIn_r _ [7, 8, 9, 10, 11, 12, 13, 14, 15, 6, 16, 17, 18, 19, 20, 21, 22, 23, 24, 25, 26, 27, 28, 29, 30, 31, 32, 33, 34, 35, 36, 37, 38, 39, 40, 41, 42, 43, 44, 45, 46, 47, 48, 49, 50, 51, 52, 53, 54, 55, 56, 57, 58, 59, 60, 61, 62, 63, 64, 65, 66, 67, 68, 69, 70, 71, 72, 73, 74, 75, 76, 77, 78, 79, 80, 81, 82, 83, 84, 85, 86, 87, 88, 89, 90, 91, 92, 93, 94, 95, 96, 97, 98, 99, 100, 101, 102, 103, 104, 105, 106, 107, 108, 109, 110, 111, 112, 113, 114, 115, 116, 117, 118, 119, 120, 121] (by decide +kernel) (by decide +kernel)) (goodIn_sub (fun _ h => List.mem_cons_of_mem _ (List.mem_append_left _ (List.mem_append_right _ h))) (by decide +kernel))) (goodIn_sub (fun _ h => List.mem_cons_of_mem _ (List.mem_append_right _ h)) (by decide +kernel))
set_option maxRecDepth 20000 in
theorem gL_take_X5_take : GoodIn wsL_take (wsV RL 51 RX5 yX5_take wsX5_take) := goodIn_app (goodIn_of _ (by decide +kernel)) ggL_take_X5_take
theorem dL_take_0 : decode cL_take 0 = .ok (.aload_n 2, 1) := by decide +kernel
theorem dL_take_1 : decode cL_take 1 = .ok (.iconst 0, 1) := by decide +kernel
theorem dL_take_2 : decode cL_take 2 = .ok (.aload_n 0, 1) := by decide +kernel
theorem dL_take_3 : decode cL_take 3 = .ok (.iload_n 1, 1) := by decide +kernel
theorem dL_take_4 : decode cL_take 4 = .ok (.invokevirtual 51, 3) := by decide +kernel
theorem dL_take_7 : decode cL_take 7 = .ok (.i2l, 1) := by decide +kernel
theorem dL_take_8 : decode cL_take 8 = .ok (.lastore, 1) := by decide +kernel
theorem dL_take_9 : decode cL_take 9 = .ok (.goto 9, 3) := by decide +kernel
theorem dL_take_12 : decode cL_take 12 = .ok (.astore_n 3, 1) := by decide +kernel
theorem dL_take_13 : decode cL_take 13 = .ok (.iconst 1, 1) := by decide +kernel
theorem dL_take_14 : decode cL_take 14 = .ok (.ireturn, 1) := by decide +kernel
theorem dL_take_15 : decode cL_take 15 = .ok (.astore_n 3, 1) := by decide +kernel
theorem dL_take_16 : decode cL_take 16 = .ok (.iconst 2, 1) := by decide +kernel
theorem dL_take_17 : decode cL_take 17 = .ok (.ireturn, 1) := by decide +kernel
theorem dL_take_18 : decode cL_take 18 = .ok (.iconst 0, 1) := by decide +kernel
theorem dL_take_19 : decode cL_take 19 = .ok (.ireturn, 1) := by decide +kernel
set_option maxRecDepth 20000 in
theorem ggL_giveUp_X5_giveUp : GoodIn wsL_giveUp wsX5_giveUp := goodIn_ca (goodIn_ca (goodIn_r _ [7, 8, 9, 10, 11, 12, 13, 14, 15, 6, 16, 17, 18, 19, 20, 21, 22, 23, 24, 25, 26, 27, 28, 29, 30, 31, 32, 33, 34, 35, 36, 37, 38, 39, 40, 41, 42, 43, 44, 45, 46, 47, 48, 49, 50, 51, 52, 53, 54, 55, 56, 57, 58, 59, 60, 61, 62, 63, 64] (by decide +kernel) (by decide +kernel)) (goodIn_sub (fun _ h => List.mem_cons_of_mem _ (List.mem_append_left _ (List.mem_append_right _ h))) (by decide +kernel))) (goodIn_sub (fun _ h => List.mem_cons_of_mem _ (List.mem_append_right _ h)) (by decide +kernel))
set_option maxRecDepth 20000 in
theorem gL_giveUp_X5_giveUp : GoodIn wsL_giveUp (wsV RL 54 RX5 yX5_giveUp wsX5_giveUp) := goodIn_app (goodIn_of _ (by decide +kernel)) ggL_giveUp_X5_giveUp
theorem dL_giveUp_0 : decode cL_giveUp 0 = .ok (.aload_n 2, 1) := by decide +kernel
theorem dL_giveUp_1 : decode cL_giveUp 1 = .ok (.iconst 0, 1) := by decide +kernel
theorem dL_giveUp_2 : decode cL_giveUp 2 = .ok (.aload_n 0, 1) := by decide +kernel
theorem dL_giveUp_3 : decode cL_giveUp 3 = .ok (.iload_n 1, 1) := by decide +kernel
theorem dL_giveUp_4 : decode cL_giveUp 4 = .ok (.invokevirtual 54, 3) := by decide +kernel
theorem dL_giveUp_7 : decode cL_giveUp 7 = .ok (.i2l, 1) := by decide +kernel
theorem dL_giveUp_8 : decode cL_giveUp 8 = .ok (.lastore, 1) := by decide +kernel
theorem dL_giveUp_9 : decode cL_giveUp 9 = .ok (.goto 9, 3) := by decide +kernel
theorem dL_giveUp_12 : decode cL_giveUp 12 = .ok (.astore_n 3, 1) := by decide +kernel
theorem dL_giveUp_13 : decode cL_giveUp 13 = .ok (.iconst 1, 1) := by decide +kernel
theorem dL_giveUp_14 : decode cL_giveUp 14 = .ok (.ireturn, 1) := by decide +kernel
theorem dL_giveUp_15 : decode cL_giveUp 15 = .ok (.astore_n 3, 1) := by decide +kernel
theorem dL_giveUp_16 : decode cL_giveUp 16 = .ok (.iconst 2, 1) := by decide +kernel
theorem dL_giveUp_17 : decode cL_giveUp 17 = .ok (.ireturn, 1) := by decide +kernel
theorem dL_giveUp_18 : decode cL_giveUp 18 = .ok (.iconst 0, 1) := by decide +kernel
theorem dL_giveUp_19 : decode cL_giveUp 19 = .ok (.ireturn, 1) := by decide +kernel
set_option maxRecDepth 20000 in
theorem ggL_handovers_X5_handovers : GoodIn wsL_handovers wsX5_handovers := goodIn_ca (goodIn_r _ [6, 7, 8, 9, 10, 11, 12, 13, 14, 5, 15, 16, 17, 18, 19, 20, 21, 22, 23, 24, 25, 26, 27, 28, 29, 30, 31, 32, 33, 34, 35, 36, 37, 38, 39, 40, 41, 42, 43, 44, 45, 46, 47, 48, 49, 50, 51, 52, 53, 54, 55, 56, 57, 58, 59, 60, 61, 62, 63, 64, 65, 66, 67, 68, 69, 70, 71, 72, 73, 74, 75] (by decide +kernel) (by decide +kernel)) (goodIn_sub (fun _ h => List.mem_cons_of_mem _ (List.mem_append_right _ h)) (by decide +kernel))
set_option maxRecDepth 20000 in
theorem gL_handovers_X5_handovers : GoodIn wsL_handovers (wsV RL 57 RX5 yX5_handovers wsX5_handovers) := goodIn_app (goodIn_of _ (by decide +kernel)) ggL_handovers_X5_handovers
theorem dL_handovers_0 : decode cL_handovers 0 = .ok (.aload_n 2, 1) := by decide +kernel
theorem dL_handovers_1 : decode cL_handovers 1 = .ok (.iconst 0, 1) := by decide +kernel
theorem dL_handovers_2 : decode cL_handovers 2 = .ok (.aload_n 0, 1) := by decide +kernel
theorem dL_handovers_3 : decode cL_handovers 3 = .ok (.iload_n 1, 1) := by decide +kernel
theorem dL_handovers_4 : decode cL_handovers 4 = .ok (.invokevirtual 57, 3) := by decide +kernel
theorem dL_handovers_7 : decode cL_handovers 7 = .ok (.i2l, 1) := by decide +kernel
theorem dL_handovers_8 : decode cL_handovers 8 = .ok (.lastore, 1) := by decide +kernel
theorem dL_handovers_9 : decode cL_handovers 9 = .ok (.goto 6, 3) := by decide +kernel
theorem dL_handovers_12 : decode cL_handovers 12 = .ok (.astore_n 3, 1) := by decide +kernel
theorem dL_handovers_13 : decode cL_handovers 13 = .ok (.iconst 1, 1) := by decide +kernel
theorem dL_handovers_14 : decode cL_handovers 14 = .ok (.ireturn, 1) := by decide +kernel
theorem dL_handovers_15 : decode cL_handovers 15 = .ok (.iconst 0, 1) := by decide +kernel
theorem dL_handovers_16 : decode cL_handovers 16 = .ok (.ireturn, 1) := by decide +kernel
set_option maxRecDepth 20000 in
theorem ggL_run_X5_run : GoodIn wsL_run wsX5_run := goodIn_ca (goodIn_ca (goodIn_r _ [7, 8, 9, 10, 11, 12, 13, 14, 6, 15, 16, 17, 18, 19, 20, 21, 22, 23, 24, 25, 26, 27, 28, 29, 30, 31, 32, 33, 34, 35, 36, 37, 38, 39, 40, 41, 42, 43, 44, 45, 46, 47, 48, 49, 50, 51, 52, 53, 54, 55, 56, 57, 58, 59, 60, 61, 62, 63, 64, 65, 66, 67, 68, 69, 70, 71, 72, 73, 74, 75, 76, 77, 78, 79, 80, 81, 82, 83, 84, 85, 86, 87, 88, 89, 90, 91, 92, 93, 94, 95, 96, 97, 98, 99, 100, 101, 102, 103, 104, 105, 106, 107, 108, 109, 110, 111, 112, 113, 114, 115, 116, 117, 118, 119, 120, 121, 122, 123, 124, 125, 126, 127, 128, 129, 130, 131, 132, 133, 134, 135, 136, 137, 138, 139, 140, 141, 142, 143, 144, 145] (by decide +kernel) (by decide +kernel)) (goodIn_sub (fun _ h => List.mem_cons_of_mem _ (List.mem_append_left _ (List.mem_append_right _ h))) (by decide +kernel))) (goodIn_sub (fun _ h => List.mem_cons_of_mem _ (List.mem_append_right _ h)) (by decide +kernel))
set_option maxRecDepth 20000 in
theorem gL_run_X5_run : GoodIn wsL_run (wsV RL 60 RX5 yX5_run wsX5_run) := goodIn_app (goodIn_of _ (by decide +kernel)) ggL_run_X5_run
theorem dL_run_0 : decode cL_run 0 = .ok (.aload_n 2, 1) := by decide +kernel
theorem dL_run_1 : decode cL_run 1 = .ok (.iconst 0, 1) := by decide +kernel
theorem dL_run_2 : decode cL_run 2 = .ok (.aload_n 0, 1) := by decide +kernel
theorem dL_run_3 : decode cL_run 3 = .ok (.iload_n 1, 1) := by decide +kernel
theorem dL_run_4 : decode cL_run 4 = .ok (.invokevirtual 60, 3) := by decide +kernel
theorem dL_run_7 : decode cL_run 7 = .ok (.i2l, 1) := by decide +kernel
theorem dL_run_8 : decode cL_run 8 = .ok (.lastore, 1) := by decide +kernel
theorem dL_run_9 : decode cL_run 9 = .ok (.goto 9, 3) := by decide +kernel
theorem dL_run_12 : decode cL_run 12 = .ok (.astore_n 3, 1) := by decide +kernel
theorem dL_run_13 : decode cL_run 13 = .ok (.iconst 1, 1) := by decide +kernel
theorem dL_run_14 : decode cL_run 14 = .ok (.ireturn, 1) := by decide +kernel
theorem dL_run_15 : decode cL_run 15 = .ok (.astore_n 3, 1) := by decide +kernel
theorem dL_run_16 : decode cL_run 16 = .ok (.iconst 2, 1) := by decide +kernel
theorem dL_run_17 : decode cL_run 17 = .ok (.ireturn, 1) := by decide +kernel
theorem dL_run_18 : decode cL_run 18 = .ok (.iconst 0, 1) := by decide +kernel
theorem dL_run_19 : decode cL_run 19 = .ok (.ireturn, 1) := by decide +kernel
set_option maxRecDepth 20000 in
theorem ggL_satellite_X5_satellite : GoodIn wsL_satellite wsX5_satellite := goodIn_ca (goodIn_r _ [6, 7, 8, 9, 10, 11, 12, 13, 14, 5, 15, 16, 17, 18, 19, 20, 21, 22, 23, 24, 25, 26, 27, 28, 29, 30, 31, 32, 33, 34, 35, 36, 37, 38, 39, 40, 41, 42, 43, 44, 45, 46, 47, 48, 49, 50, 51, 52, 53, 54, 55, 56, 57, 58, 59, 60, 61, 62, 63, 64, 65] (by decide +kernel) (by decide +kernel)) (goodIn_sub (fun _ h => List.mem_cons_of_mem _ (List.mem_append_right _ h)) (by decide +kernel))
set_option maxRecDepth 20000 in
theorem gL_satellite_X5_satellite : GoodIn wsL_satellite (wsV RL 63 RX5 yX5_satellite wsX5_satellite) := goodIn_app (goodIn_of _ (by decide +kernel)) ggL_satellite_X5_satellite
theorem dL_satellite_0 : decode cL_satellite 0 = .ok (.aload_n 3, 1) := by decide +kernel
theorem dL_satellite_1 : decode cL_satellite 1 = .ok (.iconst 0, 1) := by decide +kernel
theorem dL_satellite_2 : decode cL_satellite 2 = .ok (.aload_n 0, 1) := by decide +kernel
theorem dL_satellite_3 : decode cL_satellite 3 = .ok (.iload_n 1, 1) := by decide +kernel
theorem dL_satellite_4 : decode cL_satellite 4 = .ok (.iload_n 2, 1) := by decide +kernel
theorem dL_satellite_5 : decode cL_satellite 5 = .ok (.invokevirtual 63, 3) := by decide +kernel
theorem dL_satellite_8 : decode cL_satellite 8 = .ok (.i2l, 1) := by decide +kernel
theorem dL_satellite_9 : decode cL_satellite 9 = .ok (.lastore, 1) := by decide +kernel
theorem dL_satellite_10 : decode cL_satellite 10 = .ok (.goto 7, 3) := by decide +kernel
theorem dL_satellite_13 : decode cL_satellite 13 = .ok (.astore 4, 2) := by decide +kernel
theorem dL_satellite_15 : decode cL_satellite 15 = .ok (.iconst 1, 1) := by decide +kernel
theorem dL_satellite_16 : decode cL_satellite 16 = .ok (.ireturn, 1) := by decide +kernel
theorem dL_satellite_17 : decode cL_satellite 17 = .ok (.iconst 0, 1) := by decide +kernel
theorem dL_satellite_18 : decode cL_satellite 18 = .ok (.ireturn, 1) := by decide +kernel
set_option maxRecDepth 20000 in
theorem ggL_antenna_X5_antenna : GoodIn wsL_antenna wsX5_antenna := goodIn_ca (goodIn_r _ [6, 7, 8, 9, 10, 11, 12, 13, 5, 14, 15, 16, 17, 18, 19, 20, 21, 22, 23, 24, 25, 26, 27, 28, 29, 30, 31, 32, 33, 34, 35, 36, 37, 38, 39, 40, 41, 42, 43, 44, 45, 46, 47, 48, 49, 50, 51, 52, 53, 54, 55, 56, 57, 58, 59, 60, 61, 62, 63, 64, 65, 66, 67, 68, 69, 70, 71, 72, 73, 74, 75, 76, 77, 78, 79, 80, 81, 82, 83, 84, 85, 86, 87, 88, 89, 90, 91, 92, 93, 94, 95, 96, 97, 98, 99, 100, 101, 102, 103, 104, 105, 106, 107, 108, 109, 110, 111, 112] (by decide +kernel) (by decide +kernel)) (goodIn_sub (fun _ h => List.mem_cons_of_mem _ (List.mem_append_right _ h)) (by decide +kernel))
set_option maxRecDepth 20000 in
theorem gL_antenna_X5_antenna : GoodIn wsL_antenna (wsV RL 66 RX5 yX5_antenna wsX5_antenna) := goodIn_app (goodIn_of _ (by decide +kernel)) ggL_antenna_X5_antenna
theorem dL_antenna_0 : decode cL_antenna 0 = .ok (.aload_n 3, 1) := by decide +kernel
theorem dL_antenna_1 : decode cL_antenna 1 = .ok (.iconst 0, 1) := by decide +kernel
theorem dL_antenna_2 : decode cL_antenna 2 = .ok (.aload_n 0, 1) := by decide +kernel
theorem dL_antenna_3 : decode cL_antenna 3 = .ok (.iload_n 1, 1) := by decide +kernel
theorem dL_antenna_4 : decode cL_antenna 4 = .ok (.iload_n 2, 1) := by decide +kernel
theorem dL_antenna_5 : decode cL_antenna 5 = .ok (.invokevirtual 66, 3) := by decide +kernel
theorem dL_antenna_8 : decode cL_antenna 8 = .ok (.i2l, 1) := by decide +kernel
theorem dL_antenna_9 : decode cL_antenna 9 = .ok (.lastore, 1) := by decide +kernel
theorem dL_antenna_10 : decode cL_antenna 10 = .ok (.goto 7, 3) := by decide +kernel
theorem dL_antenna_13 : decode cL_antenna 13 = .ok (.astore 4, 2) := by decide +kernel
theorem dL_antenna_15 : decode cL_antenna 15 = .ok (.iconst 1, 1) := by decide +kernel
theorem dL_antenna_16 : decode cL_antenna 16 = .ok (.ireturn, 1) := by decide +kernel
theorem dL_antenna_17 : decode cL_antenna 17 = .ok (.iconst 0, 1) := by decide +kernel
theorem dL_antenna_18 : decode cL_antenna 18 = .ok (.ireturn, 1) := by decide +kernel
set_option maxRecDepth 20000 in
theorem ggL_law_X5_init : GoodIn wsL_law wsX5_init := goodIn_r _ [9, 10, 11, 12, 13, 14, 15, 16, 17, 18, 19, 20, 21, 22, 23, 24, 25, 26, 27, 28, 29, 30, 31, 32, 33, 34, 35, 36, 37, 38, 39, 40, 41, 42, 43, 44, 45, 46, 748, 749, 750, 715, 716, 717, 718, 719, 720, 721, 751, 752, 753, 754] (by decide +kernel) (by decide +kernel)
set_option maxRecDepth 20000 in
theorem gL_law_X5_init : GoodIn wsL_law (wsX5_init) := ggL_law_X5_init
set_option maxRecDepth 20000 in
theorem ggL_law_X6_init : GoodIn wsL_law wsX6_init := goodIn_r _ [49, 50, 11, 12, 51, 44, 52, 53, 54, 55, 56, 57, 58, 59, 60, 61, 62, 63, 64, 65, 66, 67, 68, 722, 723, 724, 725, 726, 727, 728, 729, 730, 731, 732, 733, 734, 735, 736, 737, 738, 739, 740, 741, 742, 743, 744, 745, 746, 747] (by decide +kernel) (by decide +kernel)
set_option maxRecDepth 20000 in
theorem gL_law_X6_init : GoodIn wsL_law (wsX6_init) := ggL_law_X6_init
set_option maxRecDepth 20000 in
theorem ggL_law_L_addAntenna : GoodIn wsL_law wsL_addAntenna := goodIn_ca (goodIn_ca (goodIn_r _ [72, 73, 74, 75, 76, 77, 2, 78, 79, 80, 81, 82, 16, 83, 84, 85, 86, 87, 88, 89, 90, 91, 15, 92, 93, 94, 95, 96, 97, 11, 12, 98, 99, 100, 101, 102, 103, 104, 105, 106, 107, 108, 30, 109, 110, 111, 112, 113, 114, 115, 116, 117, 118, 119, 120, 29, 121, 122, 123, 124, 125, 126, 127, 128, 129, 130, 131, 132, 133, 134, 135, 136, 137, 138, 139, 140, 141, 142, 143, 144, 145, 146, 147, 148, 149, 150, 151, 152, 153, 154, 715, 716, 717, 718, 719, 720, 721, 755, 756, 757, 758, 759, 748, 749, 750] (by decide +kernel) (by decide +kernel)) (goodIn_sub (fun _ h => List.mem_append_left _ (List.mem_append_left _ (List.mem_append_right _ h))) (by decide +kernel))) (goodIn_sub (fun _ h => List.mem_append_left _ (List.mem_append_right _ h)) (by decide +kernel))
set_option maxRecDepth 20000 in
theorem gL_law_L_addAntenna : GoodIn wsL_law (va_wsS RL 73 yL_addAntenna wsL_addAntenna) := goodIn_app (goodIn_of _ (by decide +kernel)) ggL_law_L_addAntenna
set_option maxRecDepth 20000 in
theorem ggL_law_X6_addAntenna : GoodIn wsL_law wsX6_addAntenna := goodIn_r _ [158, 159, 160, 52, 53, 54, 161, 162, 5, 163, 164, 165, 166, 167, 722, 723, 724, 725, 726, 727, 728, 729, 730, 731, 732, 733, 734, 735, 736, 737, 738, 739, 740, 741, 742, 743, 744, 745, 746, 747] (by decide +kernel) (by decide +kernel)
set_option maxRecDepth 20000 in
theorem gL_law_X6_addAntenna : GoodIn wsL_law (wsV RL 78 RX6 yX6_addAntenna wsX6_addAntenna) := goodIn_app (goodIn_of _ (by decide +kernel)) ggL_law_X6_addAntenna
set_option maxRecDepth 20000 in
theorem ggL_law_X6_thrown : GoodIn wsL_law wsX6_thrown := goodIn_r _ [171, 159, 722, 723, 724, 725, 726, 727, 728, 729, 730, 731, 732, 733, 734, 735, 736, 737, 738, 739, 740, 741, 742, 743, 744, 745, 746, 747] (by decide +kernel) (by decide +kernel)
set_option maxRecDepth 20000 in
theorem gL_law_X6_thrown : GoodIn wsL_law (wsV RL 79 RX6 yX6_thrown wsX6_thrown) := goodIn_app (goodIn_of _ (by decide +kernel)) ggL_law_X6_thrown
set_option maxRecDepth 20000 in
theorem ggL_law_L_addSatellite : GoodIn wsL_law wsL_addSatellite := goodIn_ca (goodIn_ca (goodIn_r _ [174, 73, 74, 175, 176, 177, 2, 178, 79, 80, 81, 82, 179, 17, 180, 181, 182, 86, 87, 88, 89, 90, 91, 15, 92, 93, 183, 184, 185, 186, 11, 12, 187, 188, 189, 190, 191, 192, 193, 194, 103, 104, 105, 106, 107, 108, 30, 109, 110, 111, 112, 113, 114, 115, 116, 117, 118, 119, 120, 29, 121, 122, 123, 124, 125, 126, 127, 128, 129, 130, 131, 132, 133, 134, 135, 136, 137, 138, 139, 140, 141, 142, 143, 144, 145, 146, 147, 148, 149, 150, 151, 152, 153, 154, 715, 716, 717, 718, 719, 720, 721, 760, 761, 762, 763, 764, 765, 766, 767, 748, 749, 750] (by decide +kernel) (by decide +kernel)) (goodIn_sub (fun _ h => List.mem_append_left _ (List.mem_append_left _ (List.mem_append_right _ h))) (by decide +kernel))) (goodIn_sub (fun _ h => List.mem_append_left _ (List.mem_append_right _ h)) (by decide +kernel))
set_option maxRecDepth 20000 in
theorem gL_law_L_addSatellite : GoodIn wsL_law (va_wsS RL 83 yL_addSatellite wsL_addSatellite) := goodIn_app (goodIn_of _ (by decide +kernel)) ggL_law_L_addSatellite
set_option maxRecDepth 20000 in
theorem ggL_law_X6_addSatellite : GoodIn wsL_law wsX6_addSatellite := goodIn_r _ [198, 159, 199, 200, 57, 58, 59, 60, 161, 162, 5, 163, 164, 165, 166, 167, 722, 723, 724, 725, 726, 727, 728, 729, 730, 731, 732, 733, 734, 735, 736, 737, 738, 739, 740, 741, 742, 743, 744, 745, 746, 747] (by decide +kernel) (by decide +kernel)
set_option maxRecDepth 20000 in
theorem gL_law_X6_addSatellite : GoodIn wsL_law (wsV RL 86 RX6 yX6_addSatellite wsX6_addSatellite) := goodIn_app (goodIn_of _ (by decide +kernel)) ggL_law_X6_addSatellite
set_option maxRecDepth 20000 in
theorem ggL_law_L_addPass : GoodIn wsL_law wsL_addPass := goodIn_ca (goodIn_ca (goodIn_ca (goodIn_r _ [203, 204, 73, 74, 205, 206, 207, 2, 208, 79, 80, 81, 82, 209, 210, 18, 211, 212, 213, 214, 215, 216, 217, 218, 219, 17, 220, 89, 90, 91, 15, 92, 93, 221, 222, 223, 224, 225, 226, 227, 228, 229, 230, 231, 232, 233, 234, 235, 236, 30, 237, 238, 239, 240, 16, 241, 242, 243, 244, 245, 24, 246, 247, 248, 249, 250, 251, 252, 11, 12, 253, 254, 255, 256, 257, 258, 259, 103, 104, 105, 106, 107, 108, 109, 110, 111, 112, 113, 114, 115, 116, 117, 118, 119, 120, 29, 121, 122, 123, 124, 125, 126, 127, 128, 129, 130, 131, 132, 133, 134, 135, 136, 137, 138, 139, 140, 141, 142, 143, 144, 145, 146, 147, 148, 149, 150, 151, 152, 153, 154, 755, 756, 757, 758, 759, 760, 761, 762, 763, 764, 765, 766, 767, 715, 716, 717, 718, 719, 720, 721, 768, 769, 770, 771, 772, 773, 774, 748, 749, 750] (by decide +kernel) (by decide +kernel)) (goodIn_sub (fun _ h => List.mem_append_left _ (List.mem_append_left _ (List.mem_append_right _ h))) (by decide +kernel))) (goodIn_sub (fun _ h => List.mem_append_left _ (List.mem_append_right _ h)) (by decide +kernel))) (goodIn_sub (fun _ h => List.mem_append_right _ h) (by decide +kernel))
set_option maxRecDepth 20000 in
theorem gL_law_L_addPass : GoodIn wsL_law (va_wsS RL 87 yL_addPass wsL_addPass) := goodIn_app (goodIn_of _ (by decide +kernel)) ggL_law_L_addPass
set_option maxRecDepth 20000 in
theorem ggL_law_X6_addPass : GoodIn wsL_law wsX6_addPass := goodIn_r _ [263, 159, 264, 52, 57, 265, 64, 65, 66, 67, 266, 267, 268, 5, 269, 200, 161, 162, 163, 270, 271, 272, 273, 160, 164, 165, 166, 167, 274, 275, 276, 722, 723, 724, 725, 726, 727, 728, 729, 730, 731, 732, 733, 734, 735, 736, 737, 738, 739, 740, 741, 742, 743, 744, 745, 746, 747] (by decide +kernel) (by decide +kernel)
set_option maxRecDepth 20000 in
theorem gL_law_X6_addPass : GoodIn wsL_law (wsV RL 89 RX6 yX6_addPass wsX6_addPass) := goodIn_app (goodIn_of _ (by decide +kernel)) ggL_law_X6_addPass
set_option maxRecDepth 20000 in
theorem ggL_law_L_addOutage : GoodIn wsL_law wsL_addOutage := goodIn_ca (goodIn_ca (goodIn_ca (goodIn_r _ [279, 204, 73, 74, 280, 281, 282, 2, 283, 81, 82, 19, 284, 285, 286, 237, 238, 239, 240, 218, 219, 16, 241, 89, 90, 91, 15, 92, 93, 221, 222, 223, 224, 225, 226, 227, 228, 229, 230, 231, 232, 233, 234, 235, 236, 30, 242, 243, 244, 245, 79, 80, 24, 287, 288, 289, 290, 11, 12, 291, 292, 293, 103, 104, 105, 106, 107, 108, 109, 110, 111, 112, 113, 114, 115, 116, 117, 118, 119, 120, 29, 121, 122, 123, 124, 125, 126, 127, 128, 129, 130, 131, 132, 133, 134, 135, 136, 137, 138, 139, 140, 141, 142, 143, 144, 145, 146, 147, 148, 149, 150, 151, 152, 153, 154, 294, 295, 296, 297, 18, 298, 299, 300, 301, 302, 303, 304, 305, 306, 307, 715, 716, 717, 718, 719, 720, 721, 775, 776, 777, 748, 749, 750, 768, 769, 770, 771, 772, 773, 774] (by decide +kernel) (by decide +kernel)) (goodIn_sub (fun _ h => List.mem_append_left _ (List.mem_append_right _ h)) (by decide +kernel))) (goodIn_sub (fun _ h => List.mem_append_right _ h) (by decide +kernel))) (goodIn_sub (fun _ h => List.mem_append_left _ (List.mem_append_left _ (List.mem_append_right _ h))) (by decide +kernel))
set_option maxRecDepth 20000 in
theorem gL_law_L_addOutage : GoodIn wsL_law (va_wsS RL 90 yL_addOutage wsL_addOutage) := goodIn_app (goodIn_of _ (by decide +kernel)) ggL_law_L_addOutage
set_option maxRecDepth 20000 in
theorem ggL_law_X6_addOutage : GoodIn wsL_law wsX6_addOutage := goodIn_r _ [311, 159, 264, 312, 56, 265, 313, 270, 271, 272, 5, 273, 160, 161, 162, 163, 164, 165, 166, 167, 274, 275, 276, 314, 315, 316, 317, 65, 66, 67, 318, 319, 320, 722, 723, 724, 725, 726, 727, 728, 729, 730, 731, 732, 733, 734, 735, 736, 737, 738, 739, 740, 741, 742, 743, 744, 745, 746, 747] (by decide +kernel) (by decide +kernel)
set_option maxRecDepth 20000 in
theorem gL_law_X6_addOutage : GoodIn wsL_law (wsV RL 92 RX6 yX6_addOutage wsX6_addOutage) := goodIn_app (goodIn_of _ (by decide +kernel)) ggL_law_X6_addOutage
set_option maxRecDepth 20000 in
theorem ggL_law_L_setHandover : GoodIn wsL_law wsL_setHandover := goodIn_ca (goodIn_r _ [323, 73, 324, 325, 326, 2, 327, 79, 80, 25, 86, 87, 88, 715, 716, 717, 718, 719, 720, 721] (by decide +kernel) (by decide +kernel)) (goodIn_sub (fun _ h => List.mem_append_left _ (List.mem_append_left _ (List.mem_append_right _ h))) (by decide +kernel))
set_option maxRecDepth 20000 in
theorem gL_law_L_setHandover : GoodIn wsL_law (va_wsS RL 93 yL_setHandover wsL_setHandover) := goodIn_app (goodIn_of _ (by decide +kernel)) ggL_law_L_setHandover
set_option maxRecDepth 20000 in
theorem ggL_law_X6_setHandover : GoodIn wsL_law wsX6_setHandover := goodIn_r _ [331, 159, 51, 161, 162, 5, 163, 164, 165, 166, 167, 722, 723, 724, 725, 726, 727, 728, 729, 730, 731, 732, 733, 734, 735, 736, 737, 738, 739, 740, 741, 742, 743, 744, 745, 746, 747] (by decide +kernel) (by decide +kernel)
set_option maxRecDepth 20000 in
theorem gL_law_X6_setHandover : GoodIn wsL_law (wsV RL 96 RX6 yX6_setHandover wsX6_setHandover) := goodIn_app (goodIn_of _ (by decide +kernel)) ggL_law_X6_setHandover
set_option maxRecDepth 20000 in
theorem ggL_law_L_count : GoodIn wsL_law wsL_count := goodIn_ca (goodIn_r _ [334, 204, 335, 336, 337, 2, 338, 218, 219, 16, 17, 18, 89, 90, 91, 15, 92, 93, 715, 716, 717, 718, 719, 720, 721, 748, 749, 750] (by decide +kernel) (by decide +kernel)) (goodIn_sub (fun _ h => List.mem_append_right _ h) (by decide +kernel))
set_option maxRecDepth 20000 in
theorem gL_law_L_count : GoodIn wsL_law (va_wsS RL 97 yL_count wsL_count) := goodIn_app (goodIn_of _ (by decide +kernel)) ggL_law_L_count
set_option maxRecDepth 20000 in
theorem ggL_law_X6_count : GoodIn wsL_law wsX6_count := goodIn_r _ [342, 159, 160, 200, 265, 161, 162, 5, 163, 164, 165, 166, 167, 722, 723, 724, 725, 726, 727, 728, 729, 730, 731, 732, 733, 734, 735, 736, 737, 738, 739, 740, 741, 742, 743, 744, 745, 746, 747] (by decide +kernel) (by decide +kernel)
set_option maxRecDepth 20000 in
theorem gL_law_X6_count : GoodIn wsL_law (wsV RL 99 RX6 yX6_count wsX6_count) := goodIn_app (goodIn_of _ (by decide +kernel)) ggL_law_X6_count
set_option maxRecDepth 20000 in
theorem ggL_law_L_pass : GoodIn wsL_law wsL_pass := goodIn_ca (goodIn_r _ [345, 204, 346, 347, 348, 2, 349, 218, 219, 350, 351, 299, 352, 302, 303, 301, 353, 354, 355, 356, 357, 18, 298, 89, 90, 91, 15, 92, 93, 221, 222, 223, 224, 225, 226, 227, 228, 229, 230, 231, 232, 233, 234, 235, 236, 30, 358, 359, 360, 213, 361, 256, 362, 259, 258, 363, 364, 365, 366, 367, 122, 123, 124, 368, 369, 370, 371, 255, 768, 769, 770, 771, 772, 773, 774, 760, 761, 762, 763, 764, 765, 766, 767, 755, 756, 757, 758, 759, 715, 716, 717, 718, 719, 720, 721, 748, 749, 750] (by decide +kernel) (by decide +kernel)) (goodIn_sub (fun _ h => List.mem_append_right _ h) (by decide +kernel))
set_option maxRecDepth 20000 in
theorem gL_law_L_pass : GoodIn wsL_law (va_wsS RL 100 yL_pass wsL_pass) := goodIn_app (goodIn_of _ (by decide +kernel)) ggL_law_L_pass
set_option maxRecDepth 20000 in
theorem ggL_law_X6_pass : GoodIn wsL_law wsX6_pass := goodIn_r _ [375, 159, 376, 377, 378, 5, 379, 265, 161, 162, 163, 380, 381, 382, 383, 64, 65, 66, 67, 313, 68, 384, 385, 386, 387, 58, 274, 275, 276, 388, 389, 390, 391, 392, 122, 123, 124, 393, 394, 395, 396, 164, 165, 166, 167, 722, 723, 724, 725, 726, 727, 728, 729, 730, 731, 732, 733, 734, 735, 736, 737, 738, 739, 740, 741, 742, 743, 744, 745, 746, 747] (by decide +kernel) (by decide +kernel)
set_option maxRecDepth 20000 in
theorem gL_law_X6_pass : GoodIn wsL_law (wsV RL 103 RX6 yX6_pass wsX6_pass) := goodIn_app (goodIn_of _ (by decide +kernel)) ggL_law_X6_pass
set_option maxRecDepth 20000 in
theorem ggL_law_L_isConflict : GoodIn wsL_law wsL_isConflict := goodIn_ca (goodIn_ca (goodIn_r _ [399, 204, 73, 400, 401, 402, 2, 403, 79, 80, 354, 355, 356, 357, 218, 219, 18, 298, 89, 90, 91, 15, 92, 93, 221, 222, 223, 224, 225, 226, 227, 228, 229, 230, 231, 232, 233, 234, 235, 236, 30, 404, 405, 406, 407, 299, 302, 303, 408, 350, 25, 368, 369, 370, 213, 371, 258, 255, 715, 716, 717, 718, 719, 720, 721, 748, 749, 750, 768, 769, 770, 771, 772, 773, 774, 755, 756, 757, 758, 759] (by decide +kernel) (by decide +kernel)) (goodIn_sub (fun _ h => List.mem_append_left _ (List.mem_append_left _ (List.mem_append_right _ h))) (by decide +kernel))) (goodIn_sub (fun _ h => List.mem_append_right _ h) (by decide +kernel))
set_option maxRecDepth 20000 in
theorem gL_law_L_isConflict : GoodIn wsL_law (va_wsS RL 104 yL_isConflict wsL_isConflict) := goodIn_app (goodIn_of _ (by decide +kernel)) ggL_law_L_isConflict
set_option maxRecDepth 20000 in
theorem ggL_law_X6_isConflict : GoodIn wsL_law wsX6_isConflict := goodIn_r _ [412, 159, 376, 377, 378, 5, 379, 265, 161, 162, 163, 413, 414, 415, 416, 65, 66, 67, 53, 64, 51, 393, 394, 395, 396, 722, 723, 724, 725, 726, 727, 728, 729, 730, 731, 732, 733, 734, 735, 736, 737, 738, 739, 740, 741, 742, 743, 744, 745, 746, 747] (by decide +kernel) (by decide +kernel)
set_option maxRecDepth 20000 in
theorem gL_law_X6_isConflict : GoodIn wsL_law (wsV RL 106 RX6 yX6_isConflict wsX6_isConflict) := goodIn_app (goodIn_of _ (by decide +kernel)) ggL_law_X6_isConflict
set_option maxRecDepth 20000 in
theorem ggL_law_L_canTake : GoodIn wsL_law wsL_canTake := goodIn_ca (goodIn_r _ [419, 204, 420, 421, 422, 2, 423, 354, 355, 356, 357, 218, 219, 18, 298, 89, 90, 91, 15, 92, 93, 221, 222, 223, 224, 225, 226, 227, 228, 229, 230, 231, 232, 233, 234, 235, 236, 30, 424, 425, 426, 427, 301, 302, 24, 299, 303, 428, 429, 430, 431, 19, 432, 300, 304, 305, 306, 286, 307, 292, 293, 433, 434, 435, 436, 404, 405, 406, 407, 408, 350, 25, 368, 369, 370, 213, 371, 258, 255, 715, 716, 717, 718, 719, 720, 721, 748, 749, 750, 768, 769, 770, 771, 772, 773, 774, 775, 776, 777, 755, 756, 757, 758, 759] (by decide +kernel) (by decide +kernel)) (goodIn_sub (fun _ h => List.mem_append_right _ h) (by decide +kernel))
set_option maxRecDepth 20000 in
theorem gL_law_L_canTake : GoodIn wsL_law (va_wsS RL 107 yL_canTake wsL_canTake) := goodIn_app (goodIn_of _ (by decide +kernel)) ggL_law_L_canTake
set_option maxRecDepth 20000 in
theorem ggL_law_X6_canTake : GoodIn wsL_law wsX6_canTake := goodIn_r _ [440, 159, 376, 377, 378, 5, 379, 265, 161, 162, 163, 441, 442, 443, 444, 313, 66, 264, 312, 274, 275, 276, 445, 446, 447, 448, 413, 414, 415, 416, 65, 67, 53, 64, 51, 393, 394, 395, 396, 314, 315, 316, 317, 56, 318, 319, 320, 722, 723, 724, 725, 726, 727, 728, 729, 730, 731, 732, 733, 734, 735, 736, 737, 738, 739, 740, 741, 742, 743, 744, 745, 746, 747] (by decide +kernel) (by decide +kernel)
set_option maxRecDepth 20000 in
theorem gL_law_X6_canTake : GoodIn wsL_law (wsV RL 109 RX6 yX6_canTake wsX6_canTake) := goodIn_app (goodIn_of _ (by decide +kernel)) ggL_law_X6_canTake
set_option maxRecDepth 20000 in
theorem ggL_law_X5_best : GoodIn wsL_law wsX5_best := goodIn_r _ [452, 23, 453, 454, 455, 456, 2, 457, 18, 298, 458, 459, 460, 89, 90, 91, 15, 92, 93, 221, 222, 223, 224, 225, 226, 227, 228, 229, 230, 231, 232, 233, 234, 235, 236, 30, 358, 359, 360, 213, 361, 256, 362, 259, 258, 461, 462, 463, 464, 404, 405, 406, 407, 299, 302, 303, 408, 350, 25, 368, 369, 370, 371, 255, 424, 425, 426, 427, 301, 24, 428, 429, 430, 431, 19, 432, 300, 304, 305, 306, 286, 307, 292, 293, 433, 434, 435, 436, 465, 466, 467, 468, 469, 470, 22, 471, 472, 473, 474, 475, 476, 477, 478, 479, 480, 481, 482, 483, 484, 485, 486, 487, 488, 45, 247, 248, 246, 715, 716, 717, 718, 719, 720, 721, 751, 752, 753, 754, 748, 749, 750, 768, 769, 770, 771, 772, 773, 774, 760, 761, 762, 763, 764, 765, 766, 767, 755, 756, 757, 758, 759, 775, 776, 777] (by decide +kernel) (by decide +kernel)
set_option maxRecDepth 20000 in
theorem gL_law_X5_best : GoodIn wsL_law (wsV RL 110 RX5 yX5_best wsX5_best) := goodIn_app (goodIn_of _ (by decide +kernel)) ggL_law_X5_best
set_option maxRecDepth 20000 in
theorem ggL_law_X6_best : GoodIn wsL_law wsX6_best := goodIn_r _ [492, 159, 265, 44, 441, 442, 443, 5, 444, 313, 66, 264, 312, 274, 275, 276, 445, 446, 447, 448, 413, 414, 415, 416, 65, 67, 53, 64, 51, 393, 394, 395, 396, 314, 315, 316, 317, 56, 318, 319, 320, 384, 385, 386, 387, 58, 493, 479, 480, 481, 482, 483, 484, 722, 723, 724, 725, 726, 727, 728, 729, 730, 731, 732, 733, 734, 735, 736, 737, 738, 739, 740, 741, 742, 743, 744, 745, 746, 747] (by decide +kernel) (by decide +kernel)
set_option maxRecDepth 20000 in
theorem gL_law_X6_best : GoodIn wsL_law (wsV RL 113 RX6 yX6_best wsX6_best) := goodIn_app (goodIn_of _ (by decide +kernel)) ggL_law_X6_best
set_option maxRecDepth 20000 in
theorem ggL_law_L_weight : GoodIn wsL_law wsL_weight := goodIn_ca (goodIn_r _ [496, 73, 497, 498, 499, 2, 500, 18, 298, 501, 502, 503, 504, 79, 80, 89, 90, 91, 15, 92, 93, 246, 247, 248, 221, 222, 223, 224, 225, 226, 227, 228, 229, 230, 231, 232, 233, 234, 235, 236, 30, 358, 359, 360, 213, 361, 256, 362, 259, 258, 715, 716, 717, 718, 719, 720, 721, 748, 749, 750, 768, 769, 770, 771, 772, 773, 774, 760, 761, 762, 763, 764, 765, 766, 767] (by decide +kernel) (by decide +kernel)) (goodIn_sub (fun _ h => List.mem_append_left _ (List.mem_append_left _ (List.mem_append_right _ h))) (by decide +kernel))
set_option maxRecDepth 20000 in
theorem gL_law_L_weight : GoodIn wsL_law (va_wsS RL 114 yL_weight wsL_weight) := goodIn_app (goodIn_of _ (by decide +kernel)) ggL_law_L_weight
set_option maxRecDepth 20000 in
theorem ggL_law_X6_weight : GoodIn wsL_law wsX6_weight := goodIn_r _ [508, 159, 509, 510, 511, 5, 512, 265, 161, 162, 163, 513, 514, 515, 516, 274, 275, 276, 384, 385, 386, 387, 58, 64, 67, 66, 164, 165, 166, 167, 722, 723, 724, 725, 726, 727, 728, 729, 730, 731, 732, 733, 734, 735, 736, 737, 738, 739, 740, 741, 742, 743, 744, 745, 746, 747] (by decide +kernel) (by decide +kernel)
set_option maxRecDepth 20000 in
theorem gL_law_X6_weight : GoodIn wsL_law (wsV RL 116 RX6 yX6_weight wsX6_weight) := goodIn_app (goodIn_of _ (by decide +kernel)) ggL_law_X6_weight
set_option maxRecDepth 20000 in
theorem ggL_law_L_take : GoodIn wsL_law wsL_take := goodIn_ca (goodIn_ca (goodIn_r _ [519, 73, 74, 520, 521, 522, 2, 523, 81, 82, 18, 298, 301, 501, 502, 503, 504, 79, 80, 89, 90, 91, 15, 92, 93, 524, 525, 526, 527, 246, 247, 248, 221, 222, 223, 224, 225, 226, 227, 228, 229, 230, 231, 232, 233, 234, 235, 236, 30, 424, 425, 426, 427, 302, 24, 299, 303, 428, 429, 430, 431, 19, 432, 300, 304, 305, 306, 286, 307, 292, 293, 433, 434, 435, 436, 404, 405, 406, 407, 408, 350, 25, 368, 369, 370, 213, 371, 258, 255, 461, 462, 463, 464, 528, 529, 530, 531, 715, 716, 717, 718, 719, 720, 721, 768, 769, 770, 771, 772, 773, 774, 748, 749, 750, 775, 776, 777, 755, 756, 757, 758, 759] (by decide +kernel) (by decide +kernel)) (goodIn_sub (fun _ h => List.mem_append_left _ (List.mem_append_right _ h)) (by decide +kernel))) (goodIn_sub (fun _ h => List.mem_append_left _ (List.mem_append_left _ (List.mem_append_right _ h))) (by decide +kernel))
set_option maxRecDepth 20000 in
theorem gL_law_L_take : GoodIn wsL_law (va_wsS RL 117 yL_take wsL_take) := goodIn_app (goodIn_of _ (by decide +kernel)) ggL_law_L_take
set_option maxRecDepth 20000 in
theorem ggL_law_X6_take : GoodIn wsL_law wsX6_take := goodIn_r _ [535, 159, 265, 313, 509, 510, 511, 5, 512, 161, 162, 163, 164, 165, 166, 167, 274, 275, 276, 441, 442, 443, 444, 66, 264, 312, 445, 446, 447, 448, 413, 414, 415, 416, 65, 67, 53, 64, 51, 393, 394, 395, 396, 314, 315, 316, 317, 56, 318, 319, 320, 722, 723, 724, 725, 726, 727, 728, 729, 730, 731, 732, 733, 734, 735, 736, 737, 738, 739, 740, 741, 742, 743, 744, 745, 746, 747] (by decide +kernel) (by decide +kernel)
set_option maxRecDepth 20000 in
theorem gL_law_X6_take : GoodIn wsL_law (wsV RL 119 RX6 yX6_take wsX6_take) := goodIn_app (goodIn_of _ (by decide +kernel)) ggL_law_X6_take
set_option maxRecDepth 20000 in
theorem ggL_law_L_giveUp : GoodIn wsL_law wsL_giveUp := goodIn_ca (goodIn_ca (goodIn_r _ [538, 204, 74, 539, 540, 541, 2, 542, 81, 82, 301, 302, 24, 354, 355, 356, 357, 218, 219, 18, 298, 89, 90, 91, 15, 92, 93, 221, 222, 223, 224, 225, 226, 227, 228, 229, 230, 231, 232, 233, 234, 235, 236, 30, 528, 529, 530, 531, 768, 769, 770, 771, 772, 773, 774, 715, 716, 717, 718, 719, 720, 721, 748, 749, 750] (by decide +kernel) (by decide +kernel)) (goodIn_sub (fun _ h => List.mem_append_left _ (List.mem_append_right _ h)) (by decide +kernel))) (goodIn_sub (fun _ h => List.mem_append_right _ h) (by decide +kernel))
set_option maxRecDepth 20000 in
theorem gL_law_L_giveUp : GoodIn wsL_law (va_wsS RL 120 yL_giveUp wsL_giveUp) := goodIn_app (goodIn_of _ (by decide +kernel)) ggL_law_L_giveUp
set_option maxRecDepth 20000 in
theorem ggL_law_X6_giveUp : GoodIn wsL_law wsX6_giveUp := goodIn_r _ [546, 159, 313, 66, 264, 376, 377, 378, 5, 379, 265, 161, 162, 163, 164, 165, 166, 167, 274, 275, 276, 722, 723, 724, 725, 726, 727, 728, 729, 730, 731, 732, 733, 734, 735, 736, 737, 738, 739, 740, 741, 742, 743, 744, 745, 746, 747] (by decide +kernel) (by decide +kernel)
set_option maxRecDepth 20000 in
theorem gL_law_X6_giveUp : GoodIn wsL_law (wsV RL 122 RX6 yX6_giveUp wsX6_giveUp) := goodIn_app (goodIn_of _ (by decide +kernel)) ggL_law_X6_giveUp
set_option maxRecDepth 20000 in
theorem ggL_law_X5_taken : GoodIn wsL_law wsX5_taken := goodIn_r _ [550, 528, 529, 530, 2, 531, 18, 298, 301, 89, 90, 91, 15, 92, 93, 221, 222, 223, 224, 225, 226, 227, 228, 229, 230, 231, 232, 233, 234, 235, 236, 30, 715, 716, 717, 718, 719, 720, 721, 768, 769, 770, 771, 772, 773, 774, 748, 749, 750] (by decide +kernel) (by decide +kernel)
set_option maxRecDepth 20000 in
theorem gL_law_X5_taken : GoodIn wsL_law (wsV RL 123 RX5 yX5_taken wsX5_taken) := goodIn_app (goodIn_of _ (by decide +kernel)) ggL_law_X5_taken
set_option maxRecDepth 20000 in
theorem ggL_law_X6_taken : GoodIn wsL_law wsX6_taken := goodIn_r _ [554, 159, 313, 722, 723, 724, 725, 726, 727, 728, 729, 730, 731, 732, 733, 734, 735, 736, 737, 738, 739, 740, 741, 742, 743, 744, 745, 746, 747] (by decide +kernel) (by decide +kernel)
set_option maxRecDepth 20000 in
theorem gL_law_X6_taken : GoodIn wsL_law (wsV RL 126 RX6 yX6_taken wsX6_taken) := goodIn_app (goodIn_of _ (by decide +kernel)) ggL_law_X6_taken
set_option maxRecDepth 20000 in
theorem ggL_law_L_handovers : GoodIn wsL_law wsL_handovers := goodIn_ca (goodIn_r _ [557, 204, 558, 559, 560, 2, 561, 18, 298, 350, 301, 302, 214, 215, 216, 217, 218, 219, 17, 220, 89, 90, 91, 15, 92, 93, 221, 222, 223, 224, 225, 226, 227, 228, 229, 230, 231, 232, 233, 234, 235, 236, 30, 363, 364, 365, 366, 303, 367, 122, 123, 124, 368, 369, 370, 213, 371, 258, 255, 715, 716, 717, 718, 719, 720, 721, 768, 769, 770, 771, 772, 773, 774, 748, 749, 750] (by decide +kernel) (by decide +kernel)) (goodIn_sub (fun _ h => List.mem_append_right _ h) (by decide +kernel))
set_option maxRecDepth 20000 in
theorem gL_law_L_handovers : GoodIn wsL_law (va_wsS RL 127 yL_handovers wsL_handovers) := goodIn_app (goodIn_of _ (by decide +kernel)) ggL_law_L_handovers
set_option maxRecDepth 20000 in
theorem ggL_law_X6_handovers : GoodIn wsL_law wsX6_handovers := goodIn_r _ [565, 159, 265, 313, 64, 66, 266, 267, 268, 5, 269, 200, 161, 162, 163, 164, 165, 166, 167, 274, 275, 276, 388, 389, 390, 391, 67, 392, 122, 123, 124, 393, 394, 395, 396, 722, 723, 724, 725, 726, 727, 728, 729, 730, 731, 732, 733, 734, 735, 736, 737, 738, 739, 740, 741, 742, 743, 744, 745, 746, 747] (by decide +kernel) (by decide +kernel)
set_option maxRecDepth 20000 in
theorem gL_law_X6_handovers : GoodIn wsL_law (wsV RL 129 RX6 yX6_handovers wsX6_handovers) := goodIn_app (goodIn_of _ (by decide +kernel)) ggL_law_X6_handovers
set_option maxRecDepth 20000 in
theorem ggL_law_L_run : GoodIn wsL_law wsL_run := goodIn_ca (goodIn_ca (goodIn_r _ [568, 73, 74, 569, 570, 571, 2, 572, 79, 80, 81, 82, 24, 86, 87, 88, 573, 574, 575, 576, 17, 220, 89, 90, 91, 15, 92, 93, 221, 222, 223, 224, 225, 226, 227, 228, 229, 230, 231, 232, 233, 234, 235, 236, 30, 577, 578, 579, 182, 580, 193, 194, 187, 581, 149, 123, 150, 188, 582, 583, 584, 585, 18, 298, 299, 586, 587, 588, 589, 301, 302, 303, 363, 364, 365, 366, 350, 367, 122, 124, 368, 369, 370, 213, 371, 258, 255, 428, 429, 430, 431, 19, 432, 300, 304, 305, 306, 286, 307, 292, 293, 590, 591, 592, 593, 257, 594, 256, 595, 596, 597, 598, 254, 715, 716, 717, 718, 719, 720, 721, 748, 749, 750, 760, 761, 762, 763, 764, 765, 766, 767, 768, 769, 770, 771, 772, 773, 774, 775, 776, 777, 755, 756, 757, 758, 759] (by decide +kernel) (by decide +kernel)) (goodIn_sub (fun _ h => List.mem_append_left _ (List.mem_append_left _ (List.mem_append_right _ h))) (by decide +kernel))) (goodIn_sub (fun _ h => List.mem_append_left _ (List.mem_append_right _ h)) (by decide +kernel))
set_option maxRecDepth 20000 in
theorem gL_law_L_run : GoodIn wsL_law (va_wsS RL 130 yL_run wsL_run) := goodIn_app (goodIn_of _ (by decide +kernel)) ggL_law_L_run
set_option maxRecDepth 20000 in
theorem ggL_law_X6_run : GoodIn wsL_law wsX6_run := goodIn_r _ [602, 159, 264, 161, 162, 5, 163, 164, 165, 166, 167, 603, 604, 605, 606, 200, 61, 59, 60, 392, 122, 123, 124, 62, 607, 265, 65, 54, 64, 608, 149, 150, 63, 68, 55, 609, 610, 611, 612, 313, 67, 274, 275, 276, 388, 389, 390, 391, 66, 393, 394, 395, 396, 613, 614, 615, 616, 312, 56, 722, 723, 724, 725, 726, 727, 728, 729, 730, 731, 732, 733, 734, 735, 736, 737, 738, 739, 740, 741, 742, 743, 744, 745, 746, 747] (by decide +kernel) (by decide +kernel)
set_option maxRecDepth 20000 in
theorem gL_law_X6_run : GoodIn wsL_law (wsV RL 132 RX6 yX6_run wsX6_run) := goodIn_app (goodIn_of _ (by decide +kernel)) ggL_law_X6_run
set_option maxRecDepth 20000 in
theorem ggL_law_X5_now : GoodIn wsL_law wsX5_now := goodIn_r _ [620, 24, 715, 716, 717, 718, 719, 720, 721] (by decide +kernel) (by decide +kernel)
set_option maxRecDepth 20000 in
theorem gL_law_X5_now : GoodIn wsL_law (wsV RL 133 RX5 yX5_now wsX5_now) := goodIn_app (goodIn_of _ (by decide +kernel)) ggL_law_X5_now
set_option maxRecDepth 20000 in
theorem ggL_law_X6_now : GoodIn wsL_law wsX6_now := goodIn_r _ [624, 159, 264, 722, 723, 724, 725, 726, 727, 728, 729, 730, 731, 732, 733, 734, 735, 736, 737, 738, 739, 740, 741, 742, 743, 744, 745, 746, 747] (by decide +kernel) (by decide +kernel)
set_option maxRecDepth 20000 in
theorem gL_law_X6_now : GoodIn wsL_law (wsV RL 136 RX6 yX6_now wsX6_now) := goodIn_app (goodIn_of _ (by decide +kernel)) ggL_law_X6_now
set_option maxRecDepth 20000 in
theorem ggL_law_L_satellite : GoodIn wsL_law wsL_satellite := goodIn_ca (goodIn_r _ [627, 204, 628, 629, 630, 2, 631, 218, 219, 632, 633, 634, 214, 215, 216, 217, 17, 220, 89, 90, 91, 15, 92, 93, 221, 222, 223, 224, 225, 226, 227, 228, 229, 230, 231, 232, 233, 234, 235, 236, 30, 635, 636, 637, 638, 639, 640, 24, 760, 761, 762, 763, 764, 765, 766, 767, 715, 716, 717, 718, 719, 720, 721, 748, 749, 750] (by decide +kernel) (by decide +kernel)) (goodIn_sub (fun _ h => List.mem_append_right _ h) (by decide +kernel))
set_option maxRecDepth 20000 in
theorem gL_law_L_satellite : GoodIn wsL_law (va_wsS RL 137 yL_satellite wsL_satellite) := goodIn_app (goodIn_of _ (by decide +kernel)) ggL_law_L_satellite
set_option maxRecDepth 20000 in
theorem ggL_law_X6_satellite : GoodIn wsL_law wsX6_satellite := goodIn_r _ [644, 159, 266, 267, 268, 5, 269, 200, 161, 162, 163, 645, 646, 647, 648, 61, 62, 63, 649, 650, 651, 652, 60, 59, 264, 164, 165, 166, 167, 722, 723, 724, 725, 726, 727, 728, 729, 730, 731, 732, 733, 734, 735, 736, 737, 738, 739, 740, 741, 742, 743, 744, 745, 746, 747] (by decide +kernel) (by decide +kernel)
set_option maxRecDepth 20000 in
theorem gL_law_X6_satellite : GoodIn wsL_law (wsV RL 139 RX6 yX6_satellite wsX6_satellite) := goodIn_app (goodIn_of _ (by decide +kernel)) ggL_law_X6_satellite
set_option maxRecDepth 20000 in
theorem ggL_law_L_antenna : GoodIn wsL_law wsL_antenna := goodIn_ca (goodIn_r _ [655, 204, 656, 657, 658, 2, 659, 218, 219, 24, 660, 237, 238, 239, 240, 16, 241, 89, 90, 91, 15, 92, 93, 221, 222, 223, 224, 225, 226, 227, 228, 229, 230, 231, 232, 233, 234, 235, 236, 30, 661, 662, 663, 664, 18, 298, 299, 586, 587, 588, 589, 301, 302, 303, 363, 364, 365, 366, 350, 367, 122, 123, 124, 368, 369, 370, 213, 371, 258, 255, 665, 666, 667, 668, 428, 429, 430, 431, 19, 432, 300, 304, 305, 306, 286, 307, 292, 293, 715, 716, 717, 718, 719, 720, 721, 755, 756, 757, 758, 759, 748, 749, 750, 768, 769, 770, 771, 772, 773, 774, 775, 776, 777] (by decide +kernel) (by decide +kernel)) (goodIn_sub (fun _ h => List.mem_append_right _ h) (by decide +kernel))
set_option maxRecDepth 20000 in
theorem gL_law_L_antenna : GoodIn wsL_law (va_wsS RL 140 yL_antenna wsL_antenna) := goodIn_app (goodIn_of _ (by decide +kernel)) ggL_law_L_antenna
set_option maxRecDepth 20000 in
theorem ggL_law_X6_antenna : GoodIn wsL_law wsX6_antenna := goodIn_r _ [672, 159, 270, 271, 272, 5, 273, 160, 161, 162, 163, 673, 674, 675, 676, 55, 677, 678, 679, 680, 265, 65, 609, 610, 611, 612, 313, 264, 67, 274, 275, 276, 388, 389, 390, 391, 66, 64, 392, 122, 123, 124, 393, 394, 395, 396, 681, 682, 683, 684, 613, 614, 615, 616, 312, 56, 164, 165, 166, 167, 722, 723, 724, 725, 726, 727, 728, 729, 730, 731, 732, 733, 734, 735, 736, 737, 738, 739, 740, 741, 742, 743, 744, 745, 746, 747] (by decide +kernel) (by decide +kernel)
set_option maxRecDepth 20000 in
theorem gL_law_X6_antenna : GoodIn wsL_law (wsV RL 142 RX6 yX6_antenna wsX6_antenna) := goodIn_app (goodIn_of _ (by decide +kernel)) ggL_law_X6_antenna
set_option maxRecDepth 20000 in
theorem ggL_law_X5_share : GoodIn wsL_law wsX5_share := goodIn_r _ [688, 17, 220, 634, 89, 90, 91, 15, 92, 93, 221, 222, 223, 224, 225, 226, 227, 228, 229, 230, 231, 232, 233, 234, 235, 236, 30, 689, 690, 691, 182, 692, 187, 188, 189, 715, 716, 717, 718, 719, 720, 721, 760, 761, 762, 763, 764, 765, 766, 767, 748, 749, 750] (by decide +kernel) (by decide +kernel)
set_option maxRecDepth 20000 in
theorem gL_law_X5_share : GoodIn wsL_law (wsV RL 143 RX5 yX5_share wsX5_share) := goodIn_app (goodIn_of _ (by decide +kernel)) ggL_law_X5_share
set_option maxRecDepth 20000 in
theorem ggL_law_X6_share : GoodIn wsL_law wsX6_share := goodIn_r _ [696, 159, 200, 63, 607, 722, 723, 724, 725, 726, 727, 728, 729, 730, 731, 732, 733, 734, 735, 736, 737, 738, 739, 740, 741, 742, 743, 744, 745, 746, 747] (by decide +kernel) (by decide +kernel)
set_option maxRecDepth 20000 in
theorem gL_law_X6_share : GoodIn wsL_law (wsV RL 147 RX6 yX6_share wsX6_share) := goodIn_app (goodIn_of _ (by decide +kernel)) ggL_law_X6_share
set_option maxRecDepth 20000 in
theorem ggL_law_X5_digest : GoodIn wsL_law wsX5_digest := goodIn_ca (goodIn_r _ [700, 701, 24, 25, 16, 17, 18, 702, 703, 2, 704, 705, 89, 90, 91, 15, 92, 93, 706, 657, 658, 659, 218, 219, 660, 237, 238, 239, 240, 241, 221, 222, 223, 224, 225, 226, 227, 228, 229, 230, 231, 232, 233, 234, 235, 236, 30, 661, 662, 663, 664, 298, 299, 586, 587, 588, 589, 301, 302, 303, 363, 364, 365, 366, 350, 367, 122, 123, 124, 368, 369, 370, 213, 371, 258, 255, 665, 666, 667, 668, 428, 429, 430, 431, 19, 432, 300, 304, 305, 306, 286, 307, 292, 293, 707, 629, 630, 631, 632, 633, 634, 214, 215, 216, 217, 220, 635, 636, 637, 638, 639, 640, 708, 347, 348, 349, 351, 352, 353, 354, 355, 356, 357, 358, 359, 360, 361, 256, 362, 259, 715, 716, 717, 718, 719, 720, 721, 748, 749, 750, 755, 756, 757, 758, 759, 768, 769, 770, 771, 772, 773, 774, 775, 776, 777, 760, 761, 762, 763, 764, 765, 766, 767] (by decide +kernel) (by decide +kernel)) (goodIn_sub (fun _ h => List.mem_append_right _ h) (by decide +kernel))
set_option maxRecDepth 20000 in
theorem gL_law_X5_digest : GoodIn wsL_law (wsV RL 148 RX5 yX5_digest wsX5_digest) := goodIn_app (goodIn_of _ (by decide +kernel)) ggL_law_X5_digest
set_option maxRecDepth 20000 in
theorem ggL_law_X6_digest : GoodIn wsL_law wsX6_digest := goodIn_r _ [712, 159, 713, 264, 714, 51, 160, 200, 265, 673, 674, 675, 5, 676, 55, 677, 678, 679, 680, 65, 609, 610, 611, 612, 313, 67, 274, 275, 276, 388, 389, 390, 391, 66, 64, 392, 122, 123, 124, 393, 394, 395, 396, 681, 682, 683, 684, 613, 614, 615, 616, 312, 56, 161, 162, 163, 645, 646, 647, 648, 61, 62, 63, 649, 650, 651, 652, 60, 59, 380, 381, 382, 383, 68, 384, 385, 386, 387, 58, 722, 723, 724, 725, 726, 727, 728, 729, 730, 731, 732, 733, 734, 735, 736, 737, 738, 739, 740, 741, 742, 743, 744, 745, 746, 747] (by decide +kernel) (by decide +kernel)
set_option maxRecDepth 20000 in
theorem gL_law_X6_digest : GoodIn wsL_law (wsV RL 152 RX6 yX6_digest wsX6_digest) := goodIn_app (goodIn_of _ (by decide +kernel)) ggL_law_X6_digest
theorem dL_law_0 : decode cL_law 0 = .ok (.new 8, 3) := by decide +kernel
theorem dL_law_3 : decode cL_law 3 = .ok (.dup, 1) := by decide +kernel
theorem dL_law_4 : decode cL_law 4 = .ok (.invokespecial 69, 3) := by decide +kernel
theorem dL_law_7 : decode cL_law 7 = .ok (.astore_n 1, 1) := by decide +kernel
theorem dL_law_8 : decode cL_law 8 = .ok (.new 70, 3) := by decide +kernel
theorem dL_law_11 : decode cL_law 11 = .ok (.dup, 1) := by decide +kernel
theorem dL_law_12 : decode cL_law 12 = .ok (.invokespecial 72, 3) := by decide +kernel
theorem dL_law_15 : decode cL_law 15 = .ok (.astore_n 2, 1) := by decide +kernel
theorem dL_law_16 : decode cL_law 16 = .ok (.iconst 1, 1) := by decide +kernel
theorem dL_law_17 : decode cL_law 17 = .ok (.newarray .long, 2) := by decide +kernel
theorem dL_law_19 : decode cL_law 19 = .ok (.astore_n 3, 1) := by decide +kernel
theorem dL_law_20 : decode cL_law 20 = .ok (.iconst 0, 1) := by decide +kernel
theorem dL_law_21 : decode cL_law 21 = .ok (.istore 4, 2) := by decide +kernel
theorem dL_law_23 : decode cL_law 23 = .ok (.iload 4, 2) := by decide +kernel
theorem dL_law_25 : decode cL_law 25 = .ok (.aload_n 0, 1) := by decide +kernel
theorem dL_law_26 : decode cL_law 26 = .ok (.arraylength, 1) := by decide +kernel
theorem dL_law_27 : decode cL_law 27 = .ok (.iconst 5, 1) := by decide +kernel
theorem dL_law_28 : decode cL_law 28 = .ok (.isub, 1) := by decide +kernel
theorem dL_law_29 : decode cL_law 29 = .ok (.if_icmp .gt 1285, 3) := by decide +kernel
theorem dL_law_32 : decode cL_law 32 = .ok (.aload_n 0, 1) := by decide +kernel
theorem dL_law_33 : decode cL_law 33 = .ok (.iload 4, 2) := by decide +kernel
theorem dL_law_35 : decode cL_law 35 = .ok (.iaload, 1) := by decide +kernel
theorem dL_law_36 : decode cL_law 36 = .ok (.bipush 31, 2) := by decide +kernel
theorem dL_law_38 : decode cL_law 38 = .ok (.iand, 1) := by decide +kernel
theorem dL_law_39 : decode cL_law 39 = .ok (.tableswitch 1269 0 20 #[97, 177, 269, 361, 441, 497, 553, 621, 696, 759, 772, 828, 884, 940, 953, 1009, 1065, 1078, 1146, 1214, 1255], 97) := by decide +kernel
theorem dL_law_136 : decode cL_law 136 = .ok (.aload_n 1, 1) := by decide +kernel
theorem dL_law_137 : decode cL_law 137 = .ok (.aload_n 0, 1) := by decide +kernel
theorem dL_law_138 : decode cL_law 138 = .ok (.iload 4, 2) := by decide +kernel
theorem dL_law_140 : decode cL_law 140 = .ok (.iconst 1, 1) := by decide +kernel
theorem dL_law_141 : decode cL_law 141 = .ok (.iadd, 1) := by decide +kernel
theorem dL_law_142 : decode cL_law 142 = .ok (.iaload, 1) := by decide +kernel
theorem dL_law_143 : decode cL_law 143 = .ok (.aload_n 0, 1) := by decide +kernel
theorem dL_law_144 : decode cL_law 144 = .ok (.iload 4, 2) := by decide +kernel
theorem dL_law_146 : decode cL_law 146 = .ok (.iconst 2, 1) := by decide +kernel
theorem dL_law_147 : decode cL_law 147 = .ok (.iadd, 1) := by decide +kernel
theorem dL_law_148 : decode cL_law 148 = .ok (.iaload, 1) := by decide +kernel
theorem dL_law_149 : decode cL_law 149 = .ok (.aload_n 0, 1) := by decide +kernel
theorem dL_law_150 : decode cL_law 150 = .ok (.iload 4, 2) := by decide +kernel
theorem dL_law_152 : decode cL_law 152 = .ok (.iconst 3, 1) := by decide +kernel
theorem dL_law_153 : decode cL_law 153 = .ok (.iadd, 1) := by decide +kernel
theorem dL_law_154 : decode cL_law 154 = .ok (.iaload, 1) := by decide +kernel
theorem dL_law_155 : decode cL_law 155 = .ok (.aload_n 3, 1) := by decide +kernel
theorem dL_law_156 : decode cL_law 156 = .ok (.invokestatic 73, 3) := by decide +kernel
theorem dL_law_159 : decode cL_law 159 = .ok (.istore 5, 2) := by decide +kernel
theorem dL_law_161 : decode cL_law 161 = .ok (.aload_n 2, 1) := by decide +kernel
theorem dL_law_162 : decode cL_law 162 = .ok (.aload_n 0, 1) := by decide +kernel
theorem dL_law_163 : decode cL_law 163 = .ok (.iload 4, 2) := by decide +kernel
theorem dL_law_165 : decode cL_law 165 = .ok (.iconst 1, 1) := by decide +kernel
theorem dL_law_166 : decode cL_law 166 = .ok (.iadd, 1) := by decide +kernel
theorem dL_law_167 : decode cL_law 167 = .ok (.iaload, 1) := by decide +kernel
theorem dL_law_168 : decode cL_law 168 = .ok (.aload_n 0, 1) := by decide +kernel
theorem dL_law_169 : decode cL_law 169 = .ok (.iload 4, 2) := by decide +kernel
theorem dL_law_171 : decode cL_law 171 = .ok (.iconst 2, 1) := by decide +kernel
theorem dL_law_172 : decode cL_law 172 = .ok (.iadd, 1) := by decide +kernel
theorem dL_law_173 : decode cL_law 173 = .ok (.iaload, 1) := by decide +kernel
theorem dL_law_174 : decode cL_law 174 = .ok (.aload_n 0, 1) := by decide +kernel
theorem dL_law_175 : decode cL_law 175 = .ok (.iload 4, 2) := by decide +kernel
theorem dL_law_177 : decode cL_law 177 = .ok (.iconst 3, 1) := by decide +kernel
theorem dL_law_178 : decode cL_law 178 = .ok (.iadd, 1) := by decide +kernel
theorem dL_law_179 : decode cL_law 179 = .ok (.iaload, 1) := by decide +kernel
theorem dL_law_180 : decode cL_law 180 = .ok (.invokevirtual 78, 3) := by decide +kernel
theorem dL_law_183 : decode cL_law 183 = .ok (.istore 6, 2) := by decide +kernel
theorem dL_law_185 : decode cL_law 185 = .ok (.aload_n 2, 1) := by decide +kernel
theorem dL_law_186 : decode cL_law 186 = .ok (.invokevirtual 79, 3) := by decide +kernel
theorem dL_law_189 : decode cL_law 189 = .ok (.iload 5, 2) := by decide +kernel
theorem dL_law_191 : decode cL_law 191 = .ok (.if_icmp .eq 5, 3) := by decide +kernel
theorem dL_law_194 : decode cL_law 194 = .ok (.iconst 0, 1) := by decide +kernel
theorem dL_law_195 : decode cL_law 195 = .ok (.ireturn, 1) := by decide +kernel
theorem dL_law_196 : decode cL_law 196 = .ok (.iload 5, 2) := by decide +kernel
theorem dL_law_198 : decode cL_law 198 = .ok (.ifCond .ne 15, 3) := by decide +kernel
theorem dL_law_201 : decode cL_law 201 = .ok (.aload_n 3, 1) := by decide +kernel
theorem dL_law_202 : decode cL_law 202 = .ok (.iconst 0, 1) := by decide +kernel
theorem dL_law_203 : decode cL_law 203 = .ok (.laload, 1) := by decide +kernel
theorem dL_law_204 : decode cL_law 204 = .ok (.iload 6, 2) := by decide +kernel
theorem dL_law_206 : decode cL_law 206 = .ok (.i2l, 1) := by decide +kernel
theorem dL_law_207 : decode cL_law 207 = .ok (.lcmp, 1) := by decide +kernel
theorem dL_law_208 : decode cL_law 208 = .ok (.ifCond .eq 5, 3) := by decide +kernel
theorem dL_law_211 : decode cL_law 211 = .ok (.iconst 0, 1) := by decide +kernel
theorem dL_law_212 : decode cL_law 212 = .ok (.ireturn, 1) := by decide +kernel
theorem dL_law_213 : decode cL_law 213 = .ok (.goto 1095, 3) := by decide +kernel
theorem dL_law_216 : decode cL_law 216 = .ok (.aload_n 1, 1) := by decide +kernel
theorem dL_law_217 : decode cL_law 217 = .ok (.aload_n 0, 1) := by decide +kernel
theorem dL_law_218 : decode cL_law 218 = .ok (.iload 4, 2) := by decide +kernel
theorem dL_law_220 : decode cL_law 220 = .ok (.iconst 1, 1) := by decide +kernel
theorem dL_law_221 : decode cL_law 221 = .ok (.iadd, 1) := by decide +kernel
theorem dL_law_222 : decode cL_law 222 = .ok (.iaload, 1) := by decide +kernel
theorem dL_law_223 : decode cL_law 223 = .ok (.aload_n 0, 1) := by decide +kernel
theorem dL_law_224 : decode cL_law 224 = .ok (.iload 4, 2) := by decide +kernel
theorem dL_law_226 : decode cL_law 226 = .ok (.iconst 2, 1) := by decide +kernel
theorem dL_law_227 : decode cL_law 227 = .ok (.iadd, 1) := by decide +kernel
theorem dL_law_228 : decode cL_law 228 = .ok (.iaload, 1) := by decide +kernel
theorem dL_law_229 : decode cL_law 229 = .ok (.aload_n 0, 1) := by decide +kernel
theorem dL_law_230 : decode cL_law 230 = .ok (.iload 4, 2) := by decide +kernel
theorem dL_law_232 : decode cL_law 232 = .ok (.iconst 3, 1) := by decide +kernel
theorem dL_law_233 : decode cL_law 233 = .ok (.iadd, 1) := by decide +kernel
theorem dL_law_234 : decode cL_law 234 = .ok (.iaload, 1) := by decide +kernel
theorem dL_law_235 : decode cL_law 235 = .ok (.aload_n 0, 1) := by decide +kernel
theorem dL_law_236 : decode cL_law 236 = .ok (.iload 4, 2) := by decide +kernel
