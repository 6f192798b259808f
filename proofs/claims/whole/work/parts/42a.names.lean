theorem dL_addAntenna_0 : decode cL_addAntenna 0 = .ok (.aload 4, 2) := by decide +kernel
theorem dL_addAntenna_2 : decode cL_addAntenna 2 = .ok (.iconst 0, 1) := by decide +kernel
theorem dL_addAntenna_3 : decode cL_addAntenna 3 = .ok (.aload_n 0, 1) := by decide +kernel
theorem dL_addAntenna_4 : decode cL_addAntenna 4 = .ok (.iload_n 1, 1) := by decide +kernel
theorem dL_addAntenna_5 : decode cL_addAntenna 5 = .ok (.iload_n 2, 1) := by decide +kernel
theorem dL_addAntenna_6 : decode cL_addAntenna 6 = .ok (.iload_n 3, 1) := by decide +kernel
theorem dL_addAntenna_7 : decode cL_addAntenna 7 = .ok (.invokevirtual 7, 3) := by decide +kernel
theorem dL_addAntenna_10 : decode cL_addAntenna 10 = .ok (.i2l, 1) := by decide +kernel
theorem dL_addAntenna_11 : decode cL_addAntenna 11 = .ok (.lastore, 1) := by decide +kernel
theorem dL_addAntenna_12 : decode cL_addAntenna 12 = .ok (.goto 11, 3) := by decide +kernel
theorem dL_addAntenna_15 : decode cL_addAntenna 15 = .ok (.astore 5, 2) := by decide +kernel
theorem dL_addAntenna_17 : decode cL_addAntenna 17 = .ok (.iconst 1, 1) := by decide +kernel
theorem dL_addAntenna_18 : decode cL_addAntenna 18 = .ok (.ireturn, 1) := by decide +kernel
theorem dL_addAntenna_19 : decode cL_addAntenna 19 = .ok (.astore 5, 2) := by decide +kernel
theorem dL_addAntenna_21 : decode cL_addAntenna 21 = .ok (.iconst 2, 1) := by decide +kernel
theorem dL_addAntenna_22 : decode cL_addAntenna 22 = .ok (.ireturn, 1) := by decide +kernel
theorem dL_addAntenna_23 : decode cL_addAntenna 23 = .ok (.iconst 0, 1) := by decide +kernel
theorem dL_addAntenna_24 : decode cL_addAntenna 24 = .ok (.ireturn, 1) := by decide +kernel
set_option maxRecDepth 20000 in
theorem ggL_addSatellite_X5_addSatellite : GoodIn wsL_addSatellite wsX5_addSatellite := goodIn_ca (goodIn_ca (goodIn_r _ [7, 8, 9, 10, 11, 12, 13, 14, 15, 16, 17, 18, 6, 19, 20, 21, 22, 23, 24, 25, 26, 27, 28, 29, 30, 31, 32, 33, 34, 35, 36, 37, 38, 39, 40, 41, 42, 43, 44, 45, 46, 47, 48, 49, 50, 51, 52, 53, 54, 55, 56, 57, 58, 59, 60, 61, 62, 63, 64, 65, 66, 67, 68, 69, 70, 71, 72, 73, 74, 75, 76, 77, 78, 79, 80, 81, 82, 83, 84, 85, 86, 87, 88, 89, 90, 91, 92, 93, 94, 95, 96, 97, 98, 99, 100, 101, 102, 103, 104, 105, 106, 107, 108, 109, 110, 111] (by decide +kernel) (by decide +kernel)) (goodIn_sub (fun _ h => List.mem_cons_of_mem _ (List.mem_append_left _ (List.mem_append_right _ h))) (by decide +kernel))) (goodIn_sub (fun _ h => List.mem_cons_of_mem _ (List.mem_append_right _ h)) (by decide +kernel))
set_option maxRecDepth 20000 in
theorem gL_addSatellite_X5_addSatellite : GoodIn wsL_addSatellite (wsV RL 17 RX5 yX5_addSatellite wsX5_addSatellite) := goodIn_app (goodIn_of _ (by decide +kernel)) ggL_addSatellite_X5_addSatellite
theorem dL_addSatellite_0 : decode cL_addSatellite 0 = .ok (.aload 5, 2) := by decide +kernel
theorem dL_addSatellite_2 : decode cL_addSatellite 2 = .ok (.iconst 0, 1) := by decide +kernel
theorem dL_addSatellite_3 : decode cL_addSatellite 3 = .ok (.aload_n 0, 1) := by decide +kernel
theorem dL_addSatellite_4 : decode cL_addSatellite 4 = .ok (.iload_n 1, 1) := by decide +kernel
theorem dL_addSatellite_5 : decode cL_addSatellite 5 = .ok (.iload_n 2, 1) := by decide +kernel
theorem dL_addSatellite_6 : decode cL_addSatellite 6 = .ok (.iload_n 3, 1) := by decide +kernel
theorem dL_addSatellite_7 : decode cL_addSatellite 7 = .ok (.iload 4, 2) := by decide +kernel
theorem dL_addSatellite_9 : decode cL_addSatellite 9 = .ok (.invokevirtual 17, 3) := by decide +kernel
theorem dL_addSatellite_12 : decode cL_addSatellite 12 = .ok (.i2l, 1) := by decide +kernel
theorem dL_addSatellite_13 : decode cL_addSatellite 13 = .ok (.lastore, 1) := by decide +kernel
theorem dL_addSatellite_14 : decode cL_addSatellite 14 = .ok (.goto 11, 3) := by decide +kernel
theorem dL_addSatellite_17 : decode cL_addSatellite 17 = .ok (.astore 6, 2) := by decide +kernel
theorem dL_addSatellite_19 : decode cL_addSatellite 19 = .ok (.iconst 1, 1) := by decide +kernel
theorem dL_addSatellite_20 : decode cL_addSatellite 20 = .ok (.ireturn, 1) := by decide +kernel
theorem dL_addSatellite_21 : decode cL_addSatellite 21 = .ok (.astore 6, 2) := by decide +kernel
theorem dL_addSatellite_23 : decode cL_addSatellite 23 = .ok (.iconst 2, 1) := by decide +kernel
theorem dL_addSatellite_24 : decode cL_addSatellite 24 = .ok (.ireturn, 1) := by decide +kernel
theorem dL_addSatellite_25 : decode cL_addSatellite 25 = .ok (.iconst 0, 1) := by decide +kernel
theorem dL_addSatellite_26 : decode cL_addSatellite 26 = .ok (.ireturn, 1) := by decide +kernel
set_option maxRecDepth 20000 in
theorem ggL_addPass_X5_addPass : GoodIn wsL_addPass wsX5_addPass := goodIn_ca (goodIn_ca (goodIn_ca (goodIn_r _ [8, 9, 10, 11, 12, 13, 14, 15, 16, 17, 18, 19, 20, 21, 7, 22, 23, 24, 25, 26, 27, 28, 29, 30, 31, 32, 33, 34, 35, 36, 37, 38, 39, 40, 41, 42, 43, 44, 45, 46, 47, 48, 49, 50, 51, 52, 53, 54, 55, 56, 57, 58, 59, 60, 61, 62, 63, 64, 65, 66, 67, 68, 69, 70, 71, 72, 73, 74, 75, 76, 77, 78, 79, 80, 81, 82, 83, 84, 85, 86, 87, 88, 89, 90, 91, 92, 93, 94, 95, 96, 97, 98, 99, 100, 101, 102, 103, 104, 105, 106, 107, 108, 109, 110, 111, 112, 113, 114, 115, 116, 117, 118, 119, 120, 121, 122, 123, 124, 125, 126, 127, 128, 129, 130, 131, 132, 133, 134, 135, 136, 137, 138, 139, 140, 141, 142, 143, 144, 145, 146, 147, 148, 149, 150, 151, 152, 153, 154, 155, 156, 157, 158, 159] (by decide +kernel) (by decide +kernel)) (goodIn_sub (fun _ h => List.mem_cons_of_mem _ (List.mem_append_left _ (List.mem_append_left _ (List.mem_append_right _ h)))) (by decide +kernel))) (goodIn_sub (fun _ h => List.mem_cons_of_mem _ (List.mem_append_left _ (List.mem_append_right _ h))) (by decide +kernel))) (goodIn_sub (fun _ h => List.mem_cons_of_mem _ (List.mem_append_right _ h)) (by decide +kernel))
set_option maxRecDepth 20000 in
theorem gL_addPass_X5_addPass : GoodIn wsL_addPass (wsV RL 21 RX5 yX5_addPass wsX5_addPass) := goodIn_app (goodIn_of _ (by decide +kernel)) ggL_addPass_X5_addPass
theorem dL_addPass_0 : decode cL_addPass 0 = .ok (.aload 5, 2) := by decide +kernel
theorem dL_addPass_2 : decode cL_addPass 2 = .ok (.iconst 0, 1) := by decide +kernel
theorem dL_addPass_3 : decode cL_addPass 3 = .ok (.aload_n 0, 1) := by decide +kernel
theorem dL_addPass_4 : decode cL_addPass 4 = .ok (.iload_n 1, 1) := by decide +kernel
theorem dL_addPass_5 : decode cL_addPass 5 = .ok (.iload_n 2, 1) := by decide +kernel
theorem dL_addPass_6 : decode cL_addPass 6 = .ok (.iload_n 3, 1) := by decide +kernel
theorem dL_addPass_7 : decode cL_addPass 7 = .ok (.iload 4, 2) := by decide +kernel
theorem dL_addPass_9 : decode cL_addPass 9 = .ok (.invokevirtual 21, 3) := by decide +kernel
theorem dL_addPass_12 : decode cL_addPass 12 = .ok (.i2l, 1) := by decide +kernel
theorem dL_addPass_13 : decode cL_addPass 13 = .ok (.lastore, 1) := by decide +kernel
theorem dL_addPass_14 : decode cL_addPass 14 = .ok (.goto 15, 3) := by decide +kernel
theorem dL_addPass_17 : decode cL_addPass 17 = .ok (.astore 6, 2) := by decide +kernel
theorem dL_addPass_19 : decode cL_addPass 19 = .ok (.iconst 1, 1) := by decide +kernel
theorem dL_addPass_20 : decode cL_addPass 20 = .ok (.ireturn, 1) := by decide +kernel
theorem dL_addPass_21 : decode cL_addPass 21 = .ok (.astore 6, 2) := by decide +kernel
theorem dL_addPass_23 : decode cL_addPass 23 = .ok (.iconst 2, 1) := by decide +kernel
theorem dL_addPass_24 : decode cL_addPass 24 = .ok (.ireturn, 1) := by decide +kernel
theorem dL_addPass_25 : decode cL_addPass 25 = .ok (.astore 6, 2) := by decide +kernel
theorem dL_addPass_27 : decode cL_addPass 27 = .ok (.iconst 3, 1) := by decide +kernel
theorem dL_addPass_28 : decode cL_addPass 28 = .ok (.ireturn, 1) := by decide +kernel
theorem dL_addPass_29 : decode cL_addPass 29 = .ok (.iconst 0, 1) := by decide +kernel
theorem dL_addPass_30 : decode cL_addPass 30 = .ok (.ireturn, 1) := by decide +kernel
set_option maxRecDepth 20000 in
theorem ggL_addOutage_X5_addOutage : GoodIn wsL_addOutage wsX5_addOutage := goodIn_ca (goodIn_ca (goodIn_ca (goodIn_r _ [8, 9, 10, 11, 12, 13, 14, 15, 16, 17, 7, 18, 19, 20, 21, 22, 23, 24, 25, 26, 27, 28, 29, 30, 31, 32, 33, 34, 35, 36, 37, 38, 39, 40, 41, 42, 43, 44, 45, 46, 47, 48, 49, 50, 51, 52, 53, 54, 55, 56, 57, 58, 59, 60, 61, 62, 63, 64, 65, 66, 67, 68, 69, 70, 71, 72, 73, 74, 75, 76, 77, 78, 79, 80, 81, 82, 83, 84, 85, 86, 87, 88, 89, 90, 91, 92, 93, 94, 95, 96, 97, 98, 99, 100, 101, 102, 103, 104, 105, 106, 107, 108, 109, 110, 111, 112, 113, 114, 115, 116, 117, 118, 119, 120, 121, 122, 123, 124, 125, 126, 127, 128, 129, 130, 131, 132, 133, 134, 135, 136, 137, 138, 139, 140, 141, 142, 143, 144, 145, 146, 147, 148, 149] (by decide +kernel) (by decide +kernel)) (goodIn_sub (fun _ h => List.mem_cons_of_mem _ (List.mem_append_left _ (List.mem_append_left _ (List.mem_append_right _ h)))) (by decide +kernel))) (goodIn_sub (fun _ h => List.mem_cons_of_mem _ (List.mem_append_left _ (List.mem_append_right _ h))) (by decide +kernel))) (goodIn_sub (fun _ h => List.mem_cons_of_mem _ (List.mem_append_right _ h)) (by decide +kernel))
set_option maxRecDepth 20000 in
theorem gL_addOutage_X5_addOutage : GoodIn wsL_addOutage (wsV RL 26 RX5 yX5_addOutage wsX5_addOutage) := goodIn_app (goodIn_of _ (by decide +kernel)) ggL_addOutage_X5_addOutage
theorem dL_addOutage_0 : decode cL_addOutage 0 = .ok (.aload 4, 2) := by decide +kernel
theorem dL_addOutage_2 : decode cL_addOutage 2 = .ok (.iconst 0, 1) := by decide +kernel
theorem dL_addOutage_3 : decode cL_addOutage 3 = .ok (.aload_n 0, 1) := by decide +kernel
theorem dL_addOutage_4 : decode cL_addOutage 4 = .ok (.iload_n 1, 1) := by decide +kernel
theorem dL_addOutage_5 : decode cL_addOutage 5 = .ok (.iload_n 2, 1) := by decide +kernel
theorem dL_addOutage_6 : decode cL_addOutage 6 = .ok (.iload_n 3, 1) := by decide +kernel
theorem dL_addOutage_7 : decode cL_addOutage 7 = .ok (.invokevirtual 26, 3) := by decide +kernel
theorem dL_addOutage_10 : decode cL_addOutage 10 = .ok (.i2l, 1) := by decide +kernel
theorem dL_addOutage_11 : decode cL_addOutage 11 = .ok (.lastore, 1) := by decide +kernel
theorem dL_addOutage_12 : decode cL_addOutage 12 = .ok (.goto 15, 3) := by decide +kernel
theorem dL_addOutage_15 : decode cL_addOutage 15 = .ok (.astore 5, 2) := by decide +kernel
theorem dL_addOutage_17 : decode cL_addOutage 17 = .ok (.iconst 1, 1) := by decide +kernel
theorem dL_addOutage_18 : decode cL_addOutage 18 = .ok (.ireturn, 1) := by decide +kernel
theorem dL_addOutage_19 : decode cL_addOutage 19 = .ok (.astore 5, 2) := by decide +kernel
theorem dL_addOutage_21 : decode cL_addOutage 21 = .ok (.iconst 2, 1) := by decide +kernel
theorem dL_addOutage_22 : decode cL_addOutage 22 = .ok (.ireturn, 1) := by decide +kernel
theorem dL_addOutage_23 : decode cL_addOutage 23 = .ok (.astore 5, 2) := by decide +kernel
theorem dL_addOutage_25 : decode cL_addOutage 25 = .ok (.iconst 3, 1) := by decide +kernel
theorem dL_addOutage_26 : decode cL_addOutage 26 = .ok (.ireturn, 1) := by decide +kernel
theorem dL_addOutage_27 : decode cL_addOutage 27 = .ok (.iconst 0, 1) := by decide +kernel
theorem dL_addOutage_28 : decode cL_addOutage 28 = .ok (.ireturn, 1) := by decide +kernel
set_option maxRecDepth 20000 in
theorem ggL_setHandover_X5_setHandover : GoodIn wsL_setHandover wsX5_setHandover := goodIn_ca (goodIn_r _ [6, 7, 8, 9, 10, 11, 5, 12, 13, 14, 15, 16, 17, 18, 19] (by decide +kernel) (by decide +kernel)) (goodIn_sub (fun _ h => List.mem_cons_of_mem _ (List.mem_append_right _ h)) (by decide +kernel))
set_option maxRecDepth 20000 in
theorem gL_setHandover_X5_setHandover : GoodIn wsL_setHandover (wsV RL 29 RX5 yX5_setHandover wsX5_setHandover) := goodIn_app (goodIn_of _ (by decide +kernel)) ggL_setHandover_X5_setHandover
theorem dL_setHandover_0 : decode cL_setHandover 0 = .ok (.aload_n 2, 1) := by decide +kernel
theorem dL_setHandover_1 : decode cL_setHandover 1 = .ok (.iconst 0, 1) := by decide +kernel
theorem dL_setHandover_2 : decode cL_setHandover 2 = .ok (.aload_n 0, 1) := by decide +kernel
theorem dL_setHandover_3 : decode cL_setHandover 3 = .ok (.iload_n 1, 1) := by decide +kernel
theorem dL_setHandover_4 : decode cL_setHandover 4 = .ok (.invokevirtual 29, 3) := by decide +kernel
theorem dL_setHandover_7 : decode cL_setHandover 7 = .ok (.i2l, 1) := by decide +kernel
theorem dL_setHandover_8 : decode cL_setHandover 8 = .ok (.lastore, 1) := by decide +kernel
theorem dL_setHandover_9 : decode cL_setHandover 9 = .ok (.goto 6, 3) := by decide +kernel
theorem dL_setHandover_12 : decode cL_setHandover 12 = .ok (.astore_n 3, 1) := by decide +kernel
theorem dL_setHandover_13 : decode cL_setHandover 13 = .ok (.iconst 1, 1) := by decide +kernel
theorem dL_setHandover_14 : decode cL_setHandover 14 = .ok (.ireturn, 1) := by decide +kernel
theorem dL_setHandover_15 : decode cL_setHandover 15 = .ok (.iconst 0, 1) := by decide +kernel
theorem dL_setHandover_16 : decode cL_setHandover 16 = .ok (.ireturn, 1) := by decide +kernel
set_option maxRecDepth 20000 in
theorem ggL_count_X5_count : GoodIn wsL_count wsX5_count := goodIn_ca (goodIn_r _ [6, 7, 8, 9, 10, 11, 12, 13, 14, 15, 16, 17, 18, 19, 20, 21, 22, 23, 24, 25, 26, 27] (by decide +kernel) (by decide +kernel)) (goodIn_sub (fun _ h => List.mem_cons_of_mem _ (List.mem_append_right _ h)) (by decide +kernel))
set_option maxRecDepth 20000 in
theorem gL_count_X5_count : GoodIn wsL_count (wsV RL 33 RX5 yX5_count wsX5_count) := goodIn_app (goodIn_of _ (by decide +kernel)) ggL_count_X5_count
theorem dL_count_0 : decode cL_count 0 = .ok (.aload_n 2, 1) := by decide +kernel
theorem dL_count_1 : decode cL_count 1 = .ok (.iconst 0, 1) := by decide +kernel
theorem dL_count_2 : decode cL_count 2 = .ok (.aload_n 0, 1) := by decide +kernel
theorem dL_count_3 : decode cL_count 3 = .ok (.iload_n 1, 1) := by decide +kernel
theorem dL_count_4 : decode cL_count 4 = .ok (.invokevirtual 33, 3) := by decide +kernel
theorem dL_count_7 : decode cL_count 7 = .ok (.i2l, 1) := by decide +kernel
theorem dL_count_8 : decode cL_count 8 = .ok (.lastore, 1) := by decide +kernel
theorem dL_count_9 : decode cL_count 9 = .ok (.goto 6, 3) := by decide +kernel
theorem dL_count_12 : decode cL_count 12 = .ok (.astore_n 3, 1) := by decide +kernel
theorem dL_count_13 : decode cL_count 13 = .ok (.iconst 1, 1) := by decide +kernel
theorem dL_count_14 : decode cL_count 14 = .ok (.ireturn, 1) := by decide +kernel
theorem dL_count_15 : decode cL_count 15 = .ok (.iconst 0, 1) := by decide +kernel
theorem dL_count_16 : decode cL_count 16 = .ok (.ireturn, 1) := by decide +kernel
set_option maxRecDepth 20000 in
theorem ggL_pass_X5_pass : GoodIn wsL_pass wsX5_pass := goodIn_ca (goodIn_r _ [6, 7, 8, 9, 10, 11, 12, 13, 14, 15, 16, 17, 18, 19, 5, 20, 21, 22, 23, 24, 25, 26, 27, 28, 29, 30, 31, 32, 33, 34, 35, 36, 37, 38, 39, 40, 41, 42, 43, 44, 45, 46, 47, 48, 49, 50, 51, 52, 53, 54, 55, 56, 57, 58, 59, 60, 61, 62, 63, 64, 65, 66, 67, 68, 69, 70, 71, 72, 73, 74, 75, 76, 77, 78, 79, 80, 81, 82, 83, 84, 85, 86, 87, 88, 89, 90, 91, 92, 93, 94, 95, 96, 97] (by decide +kernel) (by decide +kernel)) (goodIn_sub (fun _ h => List.mem_cons_of_mem _ (List.mem_append_right _ h)) (by decide +kernel))
set_option maxRecDepth 20000 in
theorem gL_pass_X5_pass : GoodIn wsL_pass (wsV RL 36 RX5 yX5_pass wsX5_pass) := goodIn_app (goodIn_of _ (by decide +kernel)) ggL_pass_X5_pass
theorem dL_pass_0 : decode cL_pass 0 = .ok (.aload_n 3, 1) := by decide +kernel
theorem dL_pass_1 : decode cL_pass 1 = .ok (.iconst 0, 1) := by decide +kernel
theorem dL_pass_2 : decode cL_pass 2 = .ok (.aload_n 0, 1) := by decide +kernel
theorem dL_pass_3 : decode cL_pass 3 = .ok (.iload_n 1, 1) := by decide +kernel
theorem dL_pass_4 : decode cL_pass 4 = .ok (.iload_n 2, 1) := by decide +kernel
theorem dL_pass_5 : decode cL_pass 5 = .ok (.invokevirtual 36, 3) := by decide +kernel
theorem dL_pass_8 : decode cL_pass 8 = .ok (.i2l, 1) := by decide +kernel
theorem dL_pass_9 : decode cL_pass 9 = .ok (.lastore, 1) := by decide +kernel
theorem dL_pass_10 : decode cL_pass 10 = .ok (.goto 7, 3) := by decide +kernel
theorem dL_pass_13 : decode cL_pass 13 = .ok (.astore 4, 2) := by decide +kernel
theorem dL_pass_15 : decode cL_pass 15 = .ok (.iconst 1, 1) := by decide +kernel
theorem dL_pass_16 : decode cL_pass 16 = .ok (.ireturn, 1) := by decide +kernel
theorem dL_pass_17 : decode cL_pass 17 = .ok (.iconst 0, 1) := by decide +kernel
theorem dL_pass_18 : decode cL_pass 18 = .ok (.ireturn, 1) := by decide +kernel
set_option maxRecDepth 20000 in
theorem ggL_isConflict_X5_isConflict : GoodIn wsL_isConflict wsX5_isConflict := goodIn_ca (goodIn_ca (goodIn_r _ [7, 8, 9, 10, 11, 12, 6, 13, 14, 15, 16, 17, 18, 19, 20, 21, 22, 23, 24, 25, 26, 27, 28, 29, 30, 31, 32, 33, 34, 35, 36, 37, 38, 39, 40, 41, 42, 43, 44, 45, 46, 47, 48, 49, 50, 51, 52, 53, 54, 55, 56, 57, 58, 59, 60, 61, 62, 63, 64, 65, 66, 67, 68, 69, 70, 71, 72, 73, 74, 75, 76, 77, 78, 79] (by decide +kernel) (by decide +kernel)) (goodIn_sub (fun _ h => List.mem_cons_of_mem _ (List.mem_append_left _ (List.mem_append_right _ h))) (by decide +kernel))) (goodIn_sub (fun _ h => List.mem_cons_of_mem _ (List.mem_append_right _ h)) (by decide +kernel))
set_option maxRecDepth 20000 in
theorem gL_isConflict_X5_isConflict : GoodIn wsL_isConflict (wsV RL 40 RX5 yX5_isConflict wsX5_isConflict) := goodIn_app (goodIn_of _ (by decide +kernel)) ggL_isConflict_X5_isConflict
theorem dL_isConflict_0 : decode cL_isConflict 0 = .ok (.aload_n 3, 1) := by decide +kernel
theorem dL_isConflict_1 : decode cL_isConflict 1 = .ok (.iconst 0, 1) := by decide +kernel
theorem dL_isConflict_2 : decode cL_isConflict 2 = .ok (.aload_n 0, 1) := by decide +kernel
theorem dL_isConflict_3 : decode cL_isConflict 3 = .ok (.iload_n 1, 1) := by decide +kernel
theorem dL_isConflict_4 : decode cL_isConflict 4 = .ok (.iload_n 2, 1) := by decide +kernel
theorem dL_isConflict_5 : decode cL_isConflict 5 = .ok (.invokevirtual 40, 3) := by decide +kernel
