theorem dX6_addAntenna_5 : decode cX6_addAntenna 5 = .ok (.iload_n 1, 1) := by decide +kernel
theorem dX6_addAntenna_6 : decode cX6_addAntenna 6 = .ok (.iconst 1, 1) := by decide +kernel
theorem dX6_addAntenna_7 : decode cX6_addAntenna 7 = .ok (.bipush 15, 2) := by decide +kernel
theorem dX6_addAntenna_9 : decode cX6_addAntenna 9 = .ok (.invokestatic 71, 3) := by decide +kernel
theorem dX6_addAntenna_12 : decode cX6_addAntenna 12 = .ok (.ifCond .eq 23, 3) := by decide +kernel
theorem dX6_addAntenna_15 : decode cX6_addAntenna 15 = .ok (.iload_n 2, 1) := by decide +kernel
theorem dX6_addAntenna_16 : decode cX6_addAntenna 16 = .ok (.iconst 0, 1) := by decide +kernel
theorem dX6_addAntenna_17 : decode cX6_addAntenna 17 = .ok (.bipush 30, 2) := by decide +kernel
theorem dX6_addAntenna_19 : decode cX6_addAntenna 19 = .ok (.invokestatic 71, 3) := by decide +kernel
theorem dX6_addAntenna_22 : decode cX6_addAntenna 22 = .ok (.ifCond .eq 13, 3) := by decide +kernel
theorem dX6_addAntenna_25 : decode cX6_addAntenna 25 = .ok (.iload_n 3, 1) := by decide +kernel
theorem dX6_addAntenna_26 : decode cX6_addAntenna 26 = .ok (.iconst 1, 1) := by decide +kernel
theorem dX6_addAntenna_27 : decode cX6_addAntenna 27 = .ok (.bipush 100, 2) := by decide +kernel
theorem dX6_addAntenna_29 : decode cX6_addAntenna 29 = .ok (.invokestatic 71, 3) := by decide +kernel
theorem dX6_addAntenna_32 : decode cX6_addAntenna 32 = .ok (.ifCond .ne 9, 3) := by decide +kernel
theorem dX6_addAntenna_35 : decode cX6_addAntenna 35 = .ok (.aload_n 0, 1) := by decide +kernel
theorem dX6_addAntenna_36 : decode cX6_addAntenna 36 = .ok (.iconst 1, 1) := by decide +kernel
theorem dX6_addAntenna_37 : decode cX6_addAntenna 37 = .ok (.invokevirtual 81, 3) := by decide +kernel
theorem dX6_addAntenna_40 : decode cX6_addAntenna 40 = .ok (.ireturn, 1) := by decide +kernel
theorem dX6_addAntenna_41 : decode cX6_addAntenna 41 = .ok (.aload_n 0, 1) := by decide +kernel
theorem dX6_addAntenna_42 : decode cX6_addAntenna 42 = .ok (.getfield 68, 3) := by decide +kernel
theorem dX6_addAntenna_45 : decode cX6_addAntenna 45 = .ok (.iconst 5, 1) := by decide +kernel
theorem dX6_addAntenna_46 : decode cX6_addAntenna 46 = .ok (.if_icmp .ne 9, 3) := by decide +kernel
theorem dX6_addAntenna_49 : decode cX6_addAntenna 49 = .ok (.aload_n 0, 1) := by decide +kernel
theorem dX6_addAntenna_50 : decode cX6_addAntenna 50 = .ok (.iconst 2, 1) := by decide +kernel
theorem dX6_addAntenna_51 : decode cX6_addAntenna 51 = .ok (.invokevirtual 81, 3) := by decide +kernel
theorem dX6_addAntenna_54 : decode cX6_addAntenna 54 = .ok (.ireturn, 1) := by decide +kernel
theorem dX6_addAntenna_55 : decode cX6_addAntenna 55 = .ok (.aload_n 0, 1) := by decide +kernel
theorem dX6_addAntenna_56 : decode cX6_addAntenna 56 = .ok (.getfield 13, 3) := by decide +kernel
theorem dX6_addAntenna_59 : decode cX6_addAntenna 59 = .ok (.aload_n 0, 1) := by decide +kernel
theorem dX6_addAntenna_60 : decode cX6_addAntenna 60 = .ok (.getfield 68, 3) := by decide +kernel
theorem dX6_addAntenna_63 : decode cX6_addAntenna 63 = .ok (.iload_n 1, 1) := by decide +kernel
theorem dX6_addAntenna_64 : decode cX6_addAntenna 64 = .ok (.iastore, 1) := by decide +kernel
theorem dX6_addAntenna_65 : decode cX6_addAntenna 65 = .ok (.aload_n 0, 1) := by decide +kernel
theorem dX6_addAntenna_66 : decode cX6_addAntenna 66 = .ok (.getfield 17, 3) := by decide +kernel
theorem dX6_addAntenna_69 : decode cX6_addAntenna 69 = .ok (.aload_n 0, 1) := by decide +kernel
theorem dX6_addAntenna_70 : decode cX6_addAntenna 70 = .ok (.getfield 68, 3) := by decide +kernel
theorem dX6_addAntenna_73 : decode cX6_addAntenna 73 = .ok (.iload_n 2, 1) := by decide +kernel
theorem dX6_addAntenna_74 : decode cX6_addAntenna 74 = .ok (.iastore, 1) := by decide +kernel
theorem dX6_addAntenna_75 : decode cX6_addAntenna 75 = .ok (.aload_n 0, 1) := by decide +kernel
theorem dX6_addAntenna_76 : decode cX6_addAntenna 76 = .ok (.getfield 20, 3) := by decide +kernel
theorem dX6_addAntenna_79 : decode cX6_addAntenna 79 = .ok (.aload_n 0, 1) := by decide +kernel
theorem dX6_addAntenna_80 : decode cX6_addAntenna 80 = .ok (.getfield 68, 3) := by decide +kernel
theorem dX6_addAntenna_83 : decode cX6_addAntenna 83 = .ok (.iload_n 3, 1) := by decide +kernel
theorem dX6_addAntenna_84 : decode cX6_addAntenna 84 = .ok (.iastore, 1) := by decide +kernel
theorem dX6_addAntenna_85 : decode cX6_addAntenna 85 = .ok (.aload_n 0, 1) := by decide +kernel
theorem dX6_addAntenna_86 : decode cX6_addAntenna 86 = .ok (.dup, 1) := by decide +kernel
theorem dX6_addAntenna_87 : decode cX6_addAntenna 87 = .ok (.getfield 68, 3) := by decide +kernel
theorem dX6_addAntenna_90 : decode cX6_addAntenna 90 = .ok (.iconst 1, 1) := by decide +kernel
theorem dX6_addAntenna_91 : decode cX6_addAntenna 91 = .ok (.iadd, 1) := by decide +kernel
theorem dX6_addAntenna_92 : decode cX6_addAntenna 92 = .ok (.putfield 68, 3) := by decide +kernel
theorem dX6_addAntenna_95 : decode cX6_addAntenna 95 = .ok (.aload_n 0, 1) := by decide +kernel
theorem dX6_addAntenna_96 : decode cX6_addAntenna 96 = .ok (.getfield 68, 3) := by decide +kernel
theorem dX6_addAntenna_99 : decode cX6_addAntenna 99 = .ok (.iconst 1, 1) := by decide +kernel
theorem dX6_addAntenna_100 : decode cX6_addAntenna 100 = .ok (.isub, 1) := by decide +kernel
theorem dX6_addAntenna_101 : decode cX6_addAntenna 101 = .ok (.ireturn, 1) := by decide +kernel
set_option maxRecDepth 20000 in
theorem ggX6_addSatellite_X6_isIn : GoodIn wsX6_addSatellite wsX6_isIn := goodIn_r _ [11] (by decide +kernel) (by decide +kernel)
set_option maxRecDepth 20000 in
theorem gX6_addSatellite_X6_isIn : GoodIn wsX6_addSatellite (va_wsS RX6 71 yX6_isIn wsX6_isIn) := goodIn_app (goodIn_of _ (by decide +kernel)) ggX6_addSatellite_X6_isIn
set_option maxRecDepth 20000 in
theorem ggX6_addSatellite_X6_fail : GoodIn wsX6_addSatellite wsX6_fail := goodIn_r _ [15, 1, 16, 17, 18, 19, 20, 21, 22, 23, 24, 25, 26, 27, 28, 29, 30, 31, 32, 33, 34, 35, 36, 37, 38, 39, 40, 41] (by decide +kernel) (by decide +kernel)
set_option maxRecDepth 20000 in
theorem gX6_addSatellite_X6_fail : GoodIn wsX6_addSatellite (wsV RX6 81 RX6 yX6_fail wsX6_fail) := goodIn_app (goodIn_of _ (by decide +kernel)) ggX6_addSatellite_X6_fail
theorem dX6_addSatellite_0 : decode cX6_addSatellite 0 = .ok (.aload_n 0, 1) := by decide +kernel
theorem dX6_addSatellite_1 : decode cX6_addSatellite 1 = .ok (.iconst 0, 1) := by decide +kernel
theorem dX6_addSatellite_2 : decode cX6_addSatellite 2 = .ok (.putfield 65, 3) := by decide +kernel
theorem dX6_addSatellite_5 : decode cX6_addSatellite 5 = .ok (.iload_n 1, 1) := by decide +kernel
theorem dX6_addSatellite_6 : decode cX6_addSatellite 6 = .ok (.iconst 0, 1) := by decide +kernel
theorem dX6_addSatellite_7 : decode cX6_addSatellite 7 = .ok (.iconst 3, 1) := by decide +kernel
theorem dX6_addSatellite_8 : decode cX6_addSatellite 8 = .ok (.invokestatic 71, 3) := by decide +kernel
theorem dX6_addSatellite_11 : decode cX6_addSatellite 11 = .ok (.ifCond .eq 34, 3) := by decide +kernel
theorem dX6_addSatellite_14 : decode cX6_addSatellite 14 = .ok (.iload_n 2, 1) := by decide +kernel
theorem dX6_addSatellite_15 : decode cX6_addSatellite 15 = .ok (.iconst 1, 1) := by decide +kernel
theorem dX6_addSatellite_16 : decode cX6_addSatellite 16 = .ok (.bipush 9, 2) := by decide +kernel
theorem dX6_addSatellite_18 : decode cX6_addSatellite 18 = .ok (.invokestatic 71, 3) := by decide +kernel
theorem dX6_addSatellite_21 : decode cX6_addSatellite 21 = .ok (.ifCond .eq 24, 3) := by decide +kernel
theorem dX6_addSatellite_24 : decode cX6_addSatellite 24 = .ok (.iload_n 3, 1) := by decide +kernel
theorem dX6_addSatellite_25 : decode cX6_addSatellite 25 = .ok (.iconst 0, 1) := by decide +kernel
theorem dX6_addSatellite_26 : decode cX6_addSatellite 26 = .ok (.bipush 50, 2) := by decide +kernel
theorem dX6_addSatellite_28 : decode cX6_addSatellite 28 = .ok (.invokestatic 71, 3) := by decide +kernel
theorem dX6_addSatellite_31 : decode cX6_addSatellite 31 = .ok (.ifCond .eq 14, 3) := by decide +kernel
theorem dX6_addSatellite_34 : decode cX6_addSatellite 34 = .ok (.iload 4, 2) := by decide +kernel
theorem dX6_addSatellite_36 : decode cX6_addSatellite 36 = .ok (.iconst 1, 1) := by decide +kernel
theorem dX6_addSatellite_37 : decode cX6_addSatellite 37 = .ok (.ldc 85, 2) := by decide +kernel
theorem dX6_addSatellite_39 : decode cX6_addSatellite 39 = .ok (.invokestatic 71, 3) := by decide +kernel
theorem dX6_addSatellite_42 : decode cX6_addSatellite 42 = .ok (.ifCond .ne 9, 3) := by decide +kernel
theorem dX6_addSatellite_45 : decode cX6_addSatellite 45 = .ok (.aload_n 0, 1) := by decide +kernel
theorem dX6_addSatellite_46 : decode cX6_addSatellite 46 = .ok (.iconst 1, 1) := by decide +kernel
theorem dX6_addSatellite_47 : decode cX6_addSatellite 47 = .ok (.invokevirtual 81, 3) := by decide +kernel
theorem dX6_addSatellite_50 : decode cX6_addSatellite 50 = .ok (.ireturn, 1) := by decide +kernel
theorem dX6_addSatellite_51 : decode cX6_addSatellite 51 = .ok (.aload_n 0, 1) := by decide +kernel
theorem dX6_addSatellite_52 : decode cX6_addSatellite 52 = .ok (.getfield 75, 3) := by decide +kernel
theorem dX6_addSatellite_55 : decode cX6_addSatellite 55 = .ok (.bipush 8, 2) := by decide +kernel
theorem dX6_addSatellite_57 : decode cX6_addSatellite 57 = .ok (.if_icmp .ne 9, 3) := by decide +kernel
theorem dX6_addSatellite_60 : decode cX6_addSatellite 60 = .ok (.aload_n 0, 1) := by decide +kernel
theorem dX6_addSatellite_61 : decode cX6_addSatellite 61 = .ok (.iconst 2, 1) := by decide +kernel
theorem dX6_addSatellite_62 : decode cX6_addSatellite 62 = .ok (.invokevirtual 81, 3) := by decide +kernel
theorem dX6_addSatellite_65 : decode cX6_addSatellite 65 = .ok (.ireturn, 1) := by decide +kernel
theorem dX6_addSatellite_66 : decode cX6_addSatellite 66 = .ok (.aload_n 0, 1) := by decide +kernel
theorem dX6_addSatellite_67 : decode cX6_addSatellite 67 = .ok (.getfield 29, 3) := by decide +kernel
theorem dX6_addSatellite_70 : decode cX6_addSatellite 70 = .ok (.aload_n 0, 1) := by decide +kernel
theorem dX6_addSatellite_71 : decode cX6_addSatellite 71 = .ok (.getfield 75, 3) := by decide +kernel
theorem dX6_addSatellite_74 : decode cX6_addSatellite 74 = .ok (.iload_n 1, 1) := by decide +kernel
theorem dX6_addSatellite_75 : decode cX6_addSatellite 75 = .ok (.iastore, 1) := by decide +kernel
theorem dX6_addSatellite_76 : decode cX6_addSatellite 76 = .ok (.aload_n 0, 1) := by decide +kernel
theorem dX6_addSatellite_77 : decode cX6_addSatellite 77 = .ok (.getfield 32, 3) := by decide +kernel
theorem dX6_addSatellite_80 : decode cX6_addSatellite 80 = .ok (.aload_n 0, 1) := by decide +kernel
theorem dX6_addSatellite_81 : decode cX6_addSatellite 81 = .ok (.getfield 75, 3) := by decide +kernel
theorem dX6_addSatellite_84 : decode cX6_addSatellite 84 = .ok (.iload_n 2, 1) := by decide +kernel
theorem dX6_addSatellite_85 : decode cX6_addSatellite 85 = .ok (.iastore, 1) := by decide +kernel
theorem dX6_addSatellite_86 : decode cX6_addSatellite 86 = .ok (.aload_n 0, 1) := by decide +kernel
theorem dX6_addSatellite_87 : decode cX6_addSatellite 87 = .ok (.getfield 35, 3) := by decide +kernel
theorem dX6_addSatellite_90 : decode cX6_addSatellite 90 = .ok (.aload_n 0, 1) := by decide +kernel
theorem dX6_addSatellite_91 : decode cX6_addSatellite 91 = .ok (.getfield 75, 3) := by decide +kernel
theorem dX6_addSatellite_94 : decode cX6_addSatellite 94 = .ok (.iload_n 3, 1) := by decide +kernel
theorem dX6_addSatellite_95 : decode cX6_addSatellite 95 = .ok (.iastore, 1) := by decide +kernel
theorem dX6_addSatellite_96 : decode cX6_addSatellite 96 = .ok (.aload_n 0, 1) := by decide +kernel
theorem dX6_addSatellite_97 : decode cX6_addSatellite 97 = .ok (.getfield 38, 3) := by decide +kernel
theorem dX6_addSatellite_100 : decode cX6_addSatellite 100 = .ok (.aload_n 0, 1) := by decide +kernel
theorem dX6_addSatellite_101 : decode cX6_addSatellite 101 = .ok (.getfield 75, 3) := by decide +kernel
theorem dX6_addSatellite_104 : decode cX6_addSatellite 104 = .ok (.iload 4, 2) := by decide +kernel
theorem dX6_addSatellite_106 : decode cX6_addSatellite 106 = .ok (.iastore, 1) := by decide +kernel
theorem dX6_addSatellite_107 : decode cX6_addSatellite 107 = .ok (.aload_n 0, 1) := by decide +kernel
theorem dX6_addSatellite_108 : decode cX6_addSatellite 108 = .ok (.dup, 1) := by decide +kernel
theorem dX6_addSatellite_109 : decode cX6_addSatellite 109 = .ok (.getfield 75, 3) := by decide +kernel
theorem dX6_addSatellite_112 : decode cX6_addSatellite 112 = .ok (.iconst 1, 1) := by decide +kernel
theorem dX6_addSatellite_113 : decode cX6_addSatellite 113 = .ok (.iadd, 1) := by decide +kernel
theorem dX6_addSatellite_114 : decode cX6_addSatellite 114 = .ok (.putfield 75, 3) := by decide +kernel
theorem dX6_addSatellite_117 : decode cX6_addSatellite 117 = .ok (.aload_n 0, 1) := by decide +kernel
theorem dX6_addSatellite_118 : decode cX6_addSatellite 118 = .ok (.getfield 75, 3) := by decide +kernel
theorem dX6_addSatellite_121 : decode cX6_addSatellite 121 = .ok (.iconst 1, 1) := by decide +kernel
theorem dX6_addSatellite_122 : decode cX6_addSatellite 122 = .ok (.isub, 1) := by decide +kernel
theorem dX6_addSatellite_123 : decode cX6_addSatellite 123 = .ok (.ireturn, 1) := by decide +kernel
set_option maxRecDepth 20000 in
theorem ggX6_addPass_X6_isSatellite : GoodIn wsX6_addPass wsX6_isSatellite := goodIn_r _ [14, 15, 16, 17, 13, 18, 31, 32, 33, 34, 35, 36, 37, 38, 39, 40, 41, 42, 43, 44, 45, 46, 47, 48, 49, 50, 51, 52, 53, 54, 55, 56] (by decide +kernel) (by decide +kernel)
set_option maxRecDepth 20000 in
theorem gX6_addPass_X6_isSatellite : GoodIn wsX6_addPass (wsV RX6 86 RX6 yX6_isSatellite wsX6_isSatellite) := goodIn_app (goodIn_of _ (by decide +kernel)) ggX6_addPass_X6_isSatellite
set_option maxRecDepth 20000 in
theorem ggX6_addPass_X6_isAntenna : GoodIn wsX6_addPass wsX6_isAntenna := goodIn_r _ [22, 23, 16, 17, 13, 18, 31, 32, 33, 34, 35, 36, 37, 38, 39, 40, 41, 42, 43, 44, 45, 46, 47, 48, 49, 50, 51, 52, 53, 54, 55, 56] (by decide +kernel) (by decide +kernel)
set_option maxRecDepth 20000 in
theorem gX6_addPass_X6_isAntenna : GoodIn wsX6_addPass (wsV RX6 90 RX6 yX6_isAntenna wsX6_isAntenna) := goodIn_app (goodIn_of _ (by decide +kernel)) ggX6_addPass_X6_isAntenna
set_option maxRecDepth 20000 in
theorem ggX6_addPass_X6_fail : GoodIn wsX6_addPass wsX6_fail := goodIn_r _ [27, 1, 31, 32, 33, 34, 35, 36, 37, 38, 39, 40, 41, 42, 43, 44, 45, 46, 47, 48, 49, 50, 51, 52, 53, 54, 55, 56] (by decide +kernel) (by decide +kernel)
set_option maxRecDepth 20000 in
theorem gX6_addPass_X6_fail : GoodIn wsX6_addPass (wsV RX6 81 RX6 yX6_fail wsX6_fail) := goodIn_app (goodIn_of _ (by decide +kernel)) ggX6_addPass_X6_fail
set_option maxRecDepth 20000 in
theorem ggX6_addPass_X6_has : GoodIn wsX6_addPass wsX6_has := goodIn_r _ [30] (by decide +kernel) (by decide +kernel)
set_option maxRecDepth 20000 in
theorem gX6_addPass_X6_has : GoodIn wsX6_addPass (va_wsS RX6 96 yX6_has wsX6_has) := goodIn_app (goodIn_of _ (by decide +kernel)) ggX6_addPass_X6_has
theorem dX6_addPass_0 : decode cX6_addPass 0 = .ok (.aload_n 0, 1) := by decide +kernel
theorem dX6_addPass_1 : decode cX6_addPass 1 = .ok (.iconst 0, 1) := by decide +kernel
theorem dX6_addPass_2 : decode cX6_addPass 2 = .ok (.putfield 65, 3) := by decide +kernel
theorem dX6_addPass_5 : decode cX6_addPass 5 = .ok (.aload_n 0, 1) := by decide +kernel
theorem dX6_addPass_6 : decode cX6_addPass 6 = .ok (.iload_n 1, 1) := by decide +kernel
theorem dX6_addPass_7 : decode cX6_addPass 7 = .ok (.invokevirtual 86, 3) := by decide +kernel
theorem dX6_addPass_10 : decode cX6_addPass 10 = .ok (.ifCond .eq 11, 3) := by decide +kernel
theorem dX6_addPass_13 : decode cX6_addPass 13 = .ok (.aload_n 0, 1) := by decide +kernel
theorem dX6_addPass_14 : decode cX6_addPass 14 = .ok (.iload_n 2, 1) := by decide +kernel
theorem dX6_addPass_15 : decode cX6_addPass 15 = .ok (.invokevirtual 90, 3) := by decide +kernel
theorem dX6_addPass_18 : decode cX6_addPass 18 = .ok (.ifCond .ne 9, 3) := by decide +kernel
theorem dX6_addPass_21 : decode cX6_addPass 21 = .ok (.aload_n 0, 1) := by decide +kernel
theorem dX6_addPass_22 : decode cX6_addPass 22 = .ok (.iconst 1, 1) := by decide +kernel
theorem dX6_addPass_23 : decode cX6_addPass 23 = .ok (.invokevirtual 81, 3) := by decide +kernel
theorem dX6_addPass_26 : decode cX6_addPass 26 = .ok (.ireturn, 1) := by decide +kernel
theorem dX6_addPass_27 : decode cX6_addPass 27 = .ok (.iload_n 3, 1) := by decide +kernel
theorem dX6_addPass_28 : decode cX6_addPass 28 = .ok (.aload_n 0, 1) := by decide +kernel
theorem dX6_addPass_29 : decode cX6_addPass 29 = .ok (.getfield 93, 3) := by decide +kernel
theorem dX6_addPass_32 : decode cX6_addPass 32 = .ok (.if_icmp .lt 45, 3) := by decide +kernel
theorem dX6_addPass_35 : decode cX6_addPass 35 = .ok (.iload 4, 2) := by decide +kernel
theorem dX6_addPass_37 : decode cX6_addPass 37 = .ok (.iload_n 3, 1) := by decide +kernel
theorem dX6_addPass_38 : decode cX6_addPass 38 = .ok (.if_icmp .le 39, 3) := by decide +kernel
theorem dX6_addPass_41 : decode cX6_addPass 41 = .ok (.iload 4, 2) := by decide +kernel
theorem dX6_addPass_43 : decode cX6_addPass 43 = .ok (.sipush 9999, 3) := by decide +kernel
theorem dX6_addPass_46 : decode cX6_addPass 46 = .ok (.if_icmp .gt 31, 3) := by decide +kernel
theorem dX6_addPass_49 : decode cX6_addPass 49 = .ok (.iload 4, 2) := by decide +kernel
theorem dX6_addPass_51 : decode cX6_addPass 51 = .ok (.iload_n 3, 1) := by decide +kernel
theorem dX6_addPass_52 : decode cX6_addPass 52 = .ok (.isub, 1) := by decide +kernel
theorem dX6_addPass_53 : decode cX6_addPass 53 = .ok (.sipush 600, 3) := by decide +kernel
theorem dX6_addPass_56 : decode cX6_addPass 56 = .ok (.if_icmp .gt 21, 3) := by decide +kernel
theorem dX6_addPass_59 : decode cX6_addPass 59 = .ok (.aload_n 0, 1) := by decide +kernel
theorem dX6_addPass_60 : decode cX6_addPass 60 = .ok (.getfield 13, 3) := by decide +kernel
theorem dX6_addPass_63 : decode cX6_addPass 63 = .ok (.iload_n 2, 1) := by decide +kernel
theorem dX6_addPass_64 : decode cX6_addPass 64 = .ok (.iaload, 1) := by decide +kernel
theorem dX6_addPass_65 : decode cX6_addPass 65 = .ok (.aload_n 0, 1) := by decide +kernel
theorem dX6_addPass_66 : decode cX6_addPass 66 = .ok (.getfield 29, 3) := by decide +kernel
theorem dX6_addPass_69 : decode cX6_addPass 69 = .ok (.iload_n 1, 1) := by decide +kernel
theorem dX6_addPass_70 : decode cX6_addPass 70 = .ok (.iaload, 1) := by decide +kernel
theorem dX6_addPass_71 : decode cX6_addPass 71 = .ok (.invokestatic 96, 3) := by decide +kernel
theorem dX6_addPass_74 : decode cX6_addPass 74 = .ok (.ifCond .ne 9, 3) := by decide +kernel
theorem dX6_addPass_77 : decode cX6_addPass 77 = .ok (.aload_n 0, 1) := by decide +kernel
theorem dX6_addPass_78 : decode cX6_addPass 78 = .ok (.iconst 2, 1) := by decide +kernel
theorem dX6_addPass_79 : decode cX6_addPass 79 = .ok (.invokevirtual 81, 3) := by decide +kernel
theorem dX6_addPass_82 : decode cX6_addPass 82 = .ok (.ireturn, 1) := by decide +kernel
theorem dX6_addPass_83 : decode cX6_addPass 83 = .ok (.aload_n 0, 1) := by decide +kernel
theorem dX6_addPass_84 : decode cX6_addPass 84 = .ok (.getfield 78, 3) := by decide +kernel
theorem dX6_addPass_87 : decode cX6_addPass 87 = .ok (.bipush 16, 2) := by decide +kernel
theorem dX6_addPass_89 : decode cX6_addPass 89 = .ok (.if_icmp .ne 9, 3) := by decide +kernel
theorem dX6_addPass_92 : decode cX6_addPass 92 = .ok (.aload_n 0, 1) := by decide +kernel
theorem dX6_addPass_93 : decode cX6_addPass 93 = .ok (.iconst 3, 1) := by decide +kernel
theorem dX6_addPass_94 : decode cX6_addPass 94 = .ok (.invokevirtual 81, 3) := by decide +kernel
theorem dX6_addPass_97 : decode cX6_addPass 97 = .ok (.ireturn, 1) := by decide +kernel
theorem dX6_addPass_98 : decode cX6_addPass 98 = .ok (.aload_n 0, 1) := by decide +kernel
theorem dX6_addPass_99 : decode cX6_addPass 99 = .ok (.getfield 50, 3) := by decide +kernel
theorem dX6_addPass_102 : decode cX6_addPass 102 = .ok (.aload_n 0, 1) := by decide +kernel
theorem dX6_addPass_103 : decode cX6_addPass 103 = .ok (.getfield 78, 3) := by decide +kernel
theorem dX6_addPass_106 : decode cX6_addPass 106 = .ok (.iload_n 1, 1) := by decide +kernel
theorem dX6_addPass_107 : decode cX6_addPass 107 = .ok (.iastore, 1) := by decide +kernel
theorem dX6_addPass_108 : decode cX6_addPass 108 = .ok (.aload_n 0, 1) := by decide +kernel
theorem dX6_addPass_109 : decode cX6_addPass 109 = .ok (.getfield 53, 3) := by decide +kernel
theorem dX6_addPass_112 : decode cX6_addPass 112 = .ok (.aload_n 0, 1) := by decide +kernel
theorem dX6_addPass_113 : decode cX6_addPass 113 = .ok (.getfield 78, 3) := by decide +kernel
theorem dX6_addPass_116 : decode cX6_addPass 116 = .ok (.iload_n 2, 1) := by decide +kernel
theorem dX6_addPass_117 : decode cX6_addPass 117 = .ok (.iastore, 1) := by decide +kernel
theorem dX6_addPass_118 : decode cX6_addPass 118 = .ok (.aload_n 0, 1) := by decide +kernel
theorem dX6_addPass_119 : decode cX6_addPass 119 = .ok (.getfield 56, 3) := by decide +kernel
theorem dX6_addPass_122 : decode cX6_addPass 122 = .ok (.aload_n 0, 1) := by decide +kernel
theorem dX6_addPass_123 : decode cX6_addPass 123 = .ok (.getfield 78, 3) := by decide +kernel
theorem dX6_addPass_126 : decode cX6_addPass 126 = .ok (.iload_n 3, 1) := by decide +kernel
theorem dX6_addPass_127 : decode cX6_addPass 127 = .ok (.iastore, 1) := by decide +kernel
theorem dX6_addPass_128 : decode cX6_addPass 128 = .ok (.aload_n 0, 1) := by decide +kernel
theorem dX6_addPass_129 : decode cX6_addPass 129 = .ok (.getfield 59, 3) := by decide +kernel
theorem dX6_addPass_132 : decode cX6_addPass 132 = .ok (.aload_n 0, 1) := by decide +kernel
theorem dX6_addPass_133 : decode cX6_addPass 133 = .ok (.getfield 78, 3) := by decide +kernel
theorem dX6_addPass_136 : decode cX6_addPass 136 = .ok (.iload 4, 2) := by decide +kernel
theorem dX6_addPass_138 : decode cX6_addPass 138 = .ok (.iastore, 1) := by decide +kernel
theorem dX6_addPass_139 : decode cX6_addPass 139 = .ok (.aload_n 0, 1) := by decide +kernel
theorem dX6_addPass_140 : decode cX6_addPass 140 = .ok (.dup, 1) := by decide +kernel
theorem dX6_addPass_141 : decode cX6_addPass 141 = .ok (.getfield 78, 3) := by decide +kernel
theorem dX6_addPass_144 : decode cX6_addPass 144 = .ok (.iconst 1, 1) := by decide +kernel
theorem dX6_addPass_145 : decode cX6_addPass 145 = .ok (.iadd, 1) := by decide +kernel
theorem dX6_addPass_146 : decode cX6_addPass 146 = .ok (.putfield 78, 3) := by decide +kernel
theorem dX6_addPass_149 : decode cX6_addPass 149 = .ok (.aload_n 0, 1) := by decide +kernel
theorem dX6_addPass_150 : decode cX6_addPass 150 = .ok (.getfield 78, 3) := by decide +kernel
theorem dX6_addPass_153 : decode cX6_addPass 153 = .ok (.iconst 1, 1) := by decide +kernel
theorem dX6_addPass_154 : decode cX6_addPass 154 = .ok (.isub, 1) := by decide +kernel
theorem dX6_addPass_155 : decode cX6_addPass 155 = .ok (.ireturn, 1) := by decide +kernel
theorem dX6_overlaps_0 : decode cX6_overlaps 0 = .ok (.iload_n 0, 1) := by decide +kernel
theorem dX6_overlaps_1 : decode cX6_overlaps 1 = .ok (.iload_n 3, 1) := by decide +kernel
theorem dX6_overlaps_2 : decode cX6_overlaps 2 = .ok (.if_icmp .ge 12, 3) := by decide +kernel
theorem dX6_overlaps_5 : decode cX6_overlaps 5 = .ok (.iload_n 2, 1) := by decide +kernel
theorem dX6_overlaps_6 : decode cX6_overlaps 6 = .ok (.iload_n 1, 1) := by decide +kernel
theorem dX6_overlaps_7 : decode cX6_overlaps 7 = .ok (.if_icmp .ge 7, 3) := by decide +kernel
theorem dX6_overlaps_10 : decode cX6_overlaps 10 = .ok (.iconst 1, 1) := by decide +kernel
theorem dX6_overlaps_11 : decode cX6_overlaps 11 = .ok (.goto 4, 3) := by decide +kernel
theorem dX6_overlaps_14 : decode cX6_overlaps 14 = .ok (.iconst 0, 1) := by decide +kernel
theorem dX6_overlaps_15 : decode cX6_overlaps 15 = .ok (.ireturn, 1) := by decide +kernel
set_option maxRecDepth 20000 in
theorem ggX6_isOutIn_X6_overlaps : GoodIn wsX6_isOutIn wsX6_overlaps := goodIn_r _ [8] (by decide +kernel) (by decide +kernel)
set_option maxRecDepth 20000 in
theorem gX6_isOutIn_X6_overlaps : GoodIn wsX6_isOutIn (va_wsS RX6 100 yX6_overlaps wsX6_overlaps) := goodIn_app (goodIn_of _ (by decide +kernel)) ggX6_isOutIn_X6_overlaps
theorem dX6_isOutIn_0 : decode cX6_isOutIn 0 = .ok (.aload_n 0, 1) := by decide +kernel
theorem dX6_isOutIn_1 : decode cX6_isOutIn 1 = .ok (.getfield 26, 3) := by decide +kernel
theorem dX6_isOutIn_4 : decode cX6_isOutIn 4 = .ok (.iconst 3, 1) := by decide +kernel
theorem dX6_isOutIn_5 : decode cX6_isOutIn 5 = .ok (.iload_n 1, 1) := by decide +kernel
theorem dX6_isOutIn_6 : decode cX6_isOutIn 6 = .ok (.imul, 1) := by decide +kernel
theorem dX6_isOutIn_7 : decode cX6_isOutIn 7 = .ok (.iaload, 1) := by decide +kernel
theorem dX6_isOutIn_8 : decode cX6_isOutIn 8 = .ok (.aload_n 0, 1) := by decide +kernel
theorem dX6_isOutIn_9 : decode cX6_isOutIn 9 = .ok (.getfield 53, 3) := by decide +kernel
theorem dX6_isOutIn_12 : decode cX6_isOutIn 12 = .ok (.iload_n 2, 1) := by decide +kernel
theorem dX6_isOutIn_13 : decode cX6_isOutIn 13 = .ok (.iaload, 1) := by decide +kernel
theorem dX6_isOutIn_14 : decode cX6_isOutIn 14 = .ok (.if_icmp .ne 45, 3) := by decide +kernel
theorem dX6_isOutIn_17 : decode cX6_isOutIn 17 = .ok (.aload_n 0, 1) := by decide +kernel
theorem dX6_isOutIn_18 : decode cX6_isOutIn 18 = .ok (.getfield 26, 3) := by decide +kernel
theorem dX6_isOutIn_21 : decode cX6_isOutIn 21 = .ok (.iconst 3, 1) := by decide +kernel
theorem dX6_isOutIn_22 : decode cX6_isOutIn 22 = .ok (.iload_n 1, 1) := by decide +kernel
theorem dX6_isOutIn_23 : decode cX6_isOutIn 23 = .ok (.imul, 1) := by decide +kernel
theorem dX6_isOutIn_24 : decode cX6_isOutIn 24 = .ok (.iconst 1, 1) := by decide +kernel
theorem dX6_isOutIn_25 : decode cX6_isOutIn 25 = .ok (.iadd, 1) := by decide +kernel
theorem dX6_isOutIn_26 : decode cX6_isOutIn 26 = .ok (.iaload, 1) := by decide +kernel
theorem dX6_isOutIn_27 : decode cX6_isOutIn 27 = .ok (.aload_n 0, 1) := by decide +kernel
theorem dX6_isOutIn_28 : decode cX6_isOutIn 28 = .ok (.getfield 26, 3) := by decide +kernel
theorem dX6_isOutIn_31 : decode cX6_isOutIn 31 = .ok (.iconst 3, 1) := by decide +kernel
theorem dX6_isOutIn_32 : decode cX6_isOutIn 32 = .ok (.iload_n 1, 1) := by decide +kernel
theorem dX6_isOutIn_33 : decode cX6_isOutIn 33 = .ok (.imul, 1) := by decide +kernel
theorem dX6_isOutIn_34 : decode cX6_isOutIn 34 = .ok (.iconst 2, 1) := by decide +kernel
theorem dX6_isOutIn_35 : decode cX6_isOutIn 35 = .ok (.iadd, 1) := by decide +kernel
theorem dX6_isOutIn_36 : decode cX6_isOutIn 36 = .ok (.iaload, 1) := by decide +kernel
theorem dX6_isOutIn_37 : decode cX6_isOutIn 37 = .ok (.aload_n 0, 1) := by decide +kernel
theorem dX6_isOutIn_38 : decode cX6_isOutIn 38 = .ok (.getfield 56, 3) := by decide +kernel
theorem dX6_isOutIn_41 : decode cX6_isOutIn 41 = .ok (.iload_n 2, 1) := by decide +kernel
theorem dX6_isOutIn_42 : decode cX6_isOutIn 42 = .ok (.iaload, 1) := by decide +kernel
theorem dX6_isOutIn_43 : decode cX6_isOutIn 43 = .ok (.aload_n 0, 1) := by decide +kernel
theorem dX6_isOutIn_44 : decode cX6_isOutIn 44 = .ok (.getfield 59, 3) := by decide +kernel
theorem dX6_isOutIn_47 : decode cX6_isOutIn 47 = .ok (.iload_n 2, 1) := by decide +kernel
theorem dX6_isOutIn_48 : decode cX6_isOutIn 48 = .ok (.iaload, 1) := by decide +kernel
theorem dX6_isOutIn_49 : decode cX6_isOutIn 49 = .ok (.invokestatic 100, 3) := by decide +kernel
theorem dX6_isOutIn_52 : decode cX6_isOutIn 52 = .ok (.ifCond .eq 7, 3) := by decide +kernel
theorem dX6_isOutIn_55 : decode cX6_isOutIn 55 = .ok (.iconst 1, 1) := by decide +kernel
theorem dX6_isOutIn_56 : decode cX6_isOutIn 56 = .ok (.goto 4, 3) := by decide +kernel
theorem dX6_isOutIn_59 : decode cX6_isOutIn 59 = .ok (.iconst 0, 1) := by decide +kernel
theorem dX6_isOutIn_60 : decode cX6_isOutIn 60 = .ok (.ireturn, 1) := by decide +kernel
set_option maxRecDepth 20000 in
theorem ggX6_addOutage_X6_isAntenna : GoodIn wsX6_addOutage wsX6_isAntenna := goodIn_r _ [11, 12, 13, 14, 10, 15, 33, 34, 35, 36, 37, 38, 39, 40, 41, 42, 43, 44, 45, 46, 47, 48, 49, 50, 51, 52, 53, 54, 55, 56, 57, 58] (by decide +kernel) (by decide +kernel)
set_option maxRecDepth 20000 in
theorem gX6_addOutage_X6_isAntenna : GoodIn wsX6_addOutage (wsV RX6 90 RX6 yX6_isAntenna wsX6_isAntenna) := goodIn_app (goodIn_of _ (by decide +kernel)) ggX6_addOutage_X6_isAntenna
set_option maxRecDepth 20000 in
theorem ggX6_addOutage_X6_fail : GoodIn wsX6_addOutage wsX6_fail := goodIn_r _ [19, 1, 33, 34, 35, 36, 37, 38, 39, 40, 41, 42, 43, 44, 45, 46, 47, 48, 49, 50, 51, 52, 53, 54, 55, 56, 57, 58] (by decide +kernel) (by decide +kernel)
set_option maxRecDepth 20000 in
theorem gX6_addOutage_X6_fail : GoodIn wsX6_addOutage (wsV RX6 81 RX6 yX6_fail wsX6_fail) := goodIn_app (goodIn_of _ (by decide +kernel)) ggX6_addOutage_X6_fail
set_option maxRecDepth 20000 in
theorem ggX6_addOutage_X6_has : GoodIn wsX6_addOutage wsX6_has := goodIn_r _ [22] (by decide +kernel) (by decide +kernel)
set_option maxRecDepth 20000 in
theorem gX6_addOutage_X6_has : GoodIn wsX6_addOutage (va_wsS RX6 96 yX6_has wsX6_has) := goodIn_app (goodIn_of _ (by decide +kernel)) ggX6_addOutage_X6_has
set_option maxRecDepth 20000 in
theorem ggX6_addOutage_X6_isOutIn : GoodIn wsX6_addOutage wsX6_isOutIn := goodIn_r _ [26, 4, 27, 28, 29, 30, 31, 10, 32, 33, 34, 35, 36, 37, 38, 39, 40, 41, 42, 43, 44, 45, 46, 47, 48, 49, 50, 51, 52, 53, 54, 55, 56, 57, 58] (by decide +kernel) (by decide +kernel)
set_option maxRecDepth 20000 in
theorem gX6_addOutage_X6_isOutIn : GoodIn wsX6_addOutage (wsV RX6 110 RX6 yX6_isOutIn wsX6_isOutIn) := goodIn_app (goodIn_of _ (by decide +kernel)) ggX6_addOutage_X6_isOutIn
theorem dX6_addOutage_0 : decode cX6_addOutage 0 = .ok (.aload_n 0, 1) := by decide +kernel
theorem dX6_addOutage_1 : decode cX6_addOutage 1 = .ok (.iconst 0, 1) := by decide +kernel
theorem dX6_addOutage_2 : decode cX6_addOutage 2 = .ok (.putfield 65, 3) := by decide +kernel
theorem dX6_addOutage_5 : decode cX6_addOutage 5 = .ok (.aload_n 0, 1) := by decide +kernel
theorem dX6_addOutage_6 : decode cX6_addOutage 6 = .ok (.iload_n 1, 1) := by decide +kernel
theorem dX6_addOutage_7 : decode cX6_addOutage 7 = .ok (.invokevirtual 90, 3) := by decide +kernel
theorem dX6_addOutage_10 : decode cX6_addOutage 10 = .ok (.ifCond .ne 9, 3) := by decide +kernel
theorem dX6_addOutage_13 : decode cX6_addOutage 13 = .ok (.aload_n 0, 1) := by decide +kernel
theorem dX6_addOutage_14 : decode cX6_addOutage 14 = .ok (.iconst 1, 1) := by decide +kernel
theorem dX6_addOutage_15 : decode cX6_addOutage 15 = .ok (.invokevirtual 81, 3) := by decide +kernel
theorem dX6_addOutage_18 : decode cX6_addOutage 18 = .ok (.ireturn, 1) := by decide +kernel
theorem dX6_addOutage_19 : decode cX6_addOutage 19 = .ok (.iload_n 2, 1) := by decide +kernel
theorem dX6_addOutage_20 : decode cX6_addOutage 20 = .ok (.aload_n 0, 1) := by decide +kernel
theorem dX6_addOutage_21 : decode cX6_addOutage 21 = .ok (.getfield 93, 3) := by decide +kernel
theorem dX6_addOutage_24 : decode cX6_addOutage 24 = .ok (.if_icmp .lt 15, 3) := by decide +kernel
theorem dX6_addOutage_27 : decode cX6_addOutage 27 = .ok (.iload_n 3, 1) := by decide +kernel
theorem dX6_addOutage_28 : decode cX6_addOutage 28 = .ok (.iload_n 2, 1) := by decide +kernel
theorem dX6_addOutage_29 : decode cX6_addOutage 29 = .ok (.if_icmp .le 10, 3) := by decide +kernel
theorem dX6_addOutage_32 : decode cX6_addOutage 32 = .ok (.iload_n 3, 1) := by decide +kernel
theorem dX6_addOutage_33 : decode cX6_addOutage 33 = .ok (.sipush 9999, 3) := by decide +kernel
theorem dX6_addOutage_36 : decode cX6_addOutage 36 = .ok (.if_icmp .le 9, 3) := by decide +kernel
theorem dX6_addOutage_39 : decode cX6_addOutage 39 = .ok (.aload_n 0, 1) := by decide +kernel
theorem dX6_addOutage_40 : decode cX6_addOutage 40 = .ok (.iconst 2, 1) := by decide +kernel
theorem dX6_addOutage_41 : decode cX6_addOutage 41 = .ok (.invokevirtual 81, 3) := by decide +kernel
theorem dX6_addOutage_44 : decode cX6_addOutage 44 = .ok (.ireturn, 1) := by decide +kernel
theorem dX6_addOutage_45 : decode cX6_addOutage 45 = .ok (.aload_n 0, 1) := by decide +kernel
theorem dX6_addOutage_46 : decode cX6_addOutage 46 = .ok (.getfield 104, 3) := by decide +kernel
theorem dX6_addOutage_49 : decode cX6_addOutage 49 = .ok (.bipush 6, 2) := by decide +kernel
theorem dX6_addOutage_51 : decode cX6_addOutage 51 = .ok (.if_icmp .ne 9, 3) := by decide +kernel
theorem dX6_addOutage_54 : decode cX6_addOutage 54 = .ok (.aload_n 0, 1) := by decide +kernel
theorem dX6_addOutage_55 : decode cX6_addOutage 55 = .ok (.iconst 3, 1) := by decide +kernel
theorem dX6_addOutage_56 : decode cX6_addOutage 56 = .ok (.invokevirtual 81, 3) := by decide +kernel
theorem dX6_addOutage_59 : decode cX6_addOutage 59 = .ok (.ireturn, 1) := by decide +kernel
theorem dX6_addOutage_60 : decode cX6_addOutage 60 = .ok (.aload_n 0, 1) := by decide +kernel
theorem dX6_addOutage_61 : decode cX6_addOutage 61 = .ok (.getfield 26, 3) := by decide +kernel
theorem dX6_addOutage_64 : decode cX6_addOutage 64 = .ok (.iconst 3, 1) := by decide +kernel
theorem dX6_addOutage_65 : decode cX6_addOutage 65 = .ok (.aload_n 0, 1) := by decide +kernel
theorem dX6_addOutage_66 : decode cX6_addOutage 66 = .ok (.getfield 104, 3) := by decide +kernel
theorem dX6_addOutage_69 : decode cX6_addOutage 69 = .ok (.imul, 1) := by decide +kernel
theorem dX6_addOutage_70 : decode cX6_addOutage 70 = .ok (.iload_n 1, 1) := by decide +kernel
theorem dX6_addOutage_71 : decode cX6_addOutage 71 = .ok (.iastore, 1) := by decide +kernel
theorem dX6_addOutage_72 : decode cX6_addOutage 72 = .ok (.aload_n 0, 1) := by decide +kernel
theorem dX6_addOutage_73 : decode cX6_addOutage 73 = .ok (.getfield 26, 3) := by decide +kernel
theorem dX6_addOutage_76 : decode cX6_addOutage 76 = .ok (.iconst 3, 1) := by decide +kernel
theorem dX6_addOutage_77 : decode cX6_addOutage 77 = .ok (.aload_n 0, 1) := by decide +kernel
theorem dX6_addOutage_78 : decode cX6_addOutage 78 = .ok (.getfield 104, 3) := by decide +kernel
theorem dX6_addOutage_81 : decode cX6_addOutage 81 = .ok (.imul, 1) := by decide +kernel
theorem dX6_addOutage_82 : decode cX6_addOutage 82 = .ok (.iconst 1, 1) := by decide +kernel
theorem dX6_addOutage_83 : decode cX6_addOutage 83 = .ok (.iadd, 1) := by decide +kernel
theorem dX6_addOutage_84 : decode cX6_addOutage 84 = .ok (.iload_n 2, 1) := by decide +kernel
theorem dX6_addOutage_85 : decode cX6_addOutage 85 = .ok (.iastore, 1) := by decide +kernel
theorem dX6_addOutage_86 : decode cX6_addOutage 86 = .ok (.aload_n 0, 1) := by decide +kernel
theorem dX6_addOutage_87 : decode cX6_addOutage 87 = .ok (.getfield 26, 3) := by decide +kernel
theorem dX6_addOutage_90 : decode cX6_addOutage 90 = .ok (.iconst 3, 1) := by decide +kernel
theorem dX6_addOutage_91 : decode cX6_addOutage 91 = .ok (.aload_n 0, 1) := by decide +kernel
theorem dX6_addOutage_92 : decode cX6_addOutage 92 = .ok (.getfield 104, 3) := by decide +kernel
theorem dX6_addOutage_95 : decode cX6_addOutage 95 = .ok (.imul, 1) := by decide +kernel
theorem dX6_addOutage_96 : decode cX6_addOutage 96 = .ok (.iconst 2, 1) := by decide +kernel
theorem dX6_addOutage_97 : decode cX6_addOutage 97 = .ok (.iadd, 1) := by decide +kernel
theorem dX6_addOutage_98 : decode cX6_addOutage 98 = .ok (.iload_n 3, 1) := by decide +kernel
theorem dX6_addOutage_99 : decode cX6_addOutage 99 = .ok (.iastore, 1) := by decide +kernel
theorem dX6_addOutage_100 : decode cX6_addOutage 100 = .ok (.iconst 0, 1) := by decide +kernel
theorem dX6_addOutage_101 : decode cX6_addOutage 101 = .ok (.istore 4, 2) := by decide +kernel
theorem dX6_addOutage_103 : decode cX6_addOutage 103 = .ok (.iconst 0, 1) := by decide +kernel
theorem dX6_addOutage_104 : decode cX6_addOutage 104 = .ok (.istore 5, 2) := by decide +kernel
theorem dX6_addOutage_106 : decode cX6_addOutage 106 = .ok (.iload 5, 2) := by decide +kernel
theorem dX6_addOutage_108 : decode cX6_addOutage 108 = .ok (.aload_n 0, 1) := by decide +kernel
theorem dX6_addOutage_109 : decode cX6_addOutage 109 = .ok (.getfield 78, 3) := by decide +kernel
theorem dX6_addOutage_112 : decode cX6_addOutage 112 = .ok (.if_icmp .ge 44, 3) := by decide +kernel
theorem dX6_addOutage_115 : decode cX6_addOutage 115 = .ok (.iload 4, 2) := by decide +kernel
theorem dX6_addOutage_117 : decode cX6_addOutage 117 = .ok (.aload_n 0, 1) := by decide +kernel
theorem dX6_addOutage_118 : decode cX6_addOutage 118 = .ok (.getfield 107, 3) := by decide +kernel
theorem dX6_addOutage_121 : decode cX6_addOutage 121 = .ok (.iload 5, 2) := by decide +kernel
theorem dX6_addOutage_123 : decode cX6_addOutage 123 = .ok (.invokestatic 96, 3) := by decide +kernel
theorem dX6_addOutage_126 : decode cX6_addOutage 126 = .ok (.ifCond .eq 20, 3) := by decide +kernel
theorem dX6_addOutage_129 : decode cX6_addOutage 129 = .ok (.aload_n 0, 1) := by decide +kernel
theorem dX6_addOutage_130 : decode cX6_addOutage 130 = .ok (.aload_n 0, 1) := by decide +kernel
theorem dX6_addOutage_131 : decode cX6_addOutage 131 = .ok (.getfield 104, 3) := by decide +kernel
theorem dX6_addOutage_134 : decode cX6_addOutage 134 = .ok (.iload 5, 2) := by decide +kernel
theorem dX6_addOutage_136 : decode cX6_addOutage 136 = .ok (.invokevirtual 110, 3) := by decide +kernel
theorem dX6_addOutage_139 : decode cX6_addOutage 139 = .ok (.ifCond .eq 7, 3) := by decide +kernel
theorem dX6_addOutage_142 : decode cX6_addOutage 142 = .ok (.iconst 1, 1) := by decide +kernel
theorem dX6_addOutage_143 : decode cX6_addOutage 143 = .ok (.goto 4, 3) := by decide +kernel
theorem dX6_addOutage_146 : decode cX6_addOutage 146 = .ok (.iconst 0, 1) := by decide +kernel
theorem dX6_addOutage_147 : decode cX6_addOutage 147 = .ok (.iadd, 1) := by decide +kernel
theorem dX6_addOutage_148 : decode cX6_addOutage 148 = .ok (.istore 4, 2) := by decide +kernel
theorem dX6_addOutage_150 : decode cX6_addOutage 150 = .ok (.iinc 5 1, 3) := by decide +kernel
theorem dX6_addOutage_153 : decode cX6_addOutage 153 = .ok (.goto (-47), 3) := by decide +kernel
theorem dX6_addOutage_156 : decode cX6_addOutage 156 = .ok (.aload_n 0, 1) := by decide +kernel
theorem dX6_addOutage_157 : decode cX6_addOutage 157 = .ok (.dup, 1) := by decide +kernel
theorem dX6_addOutage_158 : decode cX6_addOutage 158 = .ok (.getfield 104, 3) := by decide +kernel
theorem dX6_addOutage_161 : decode cX6_addOutage 161 = .ok (.iconst 1, 1) := by decide +kernel
theorem dX6_addOutage_162 : decode cX6_addOutage 162 = .ok (.iadd, 1) := by decide +kernel
theorem dX6_addOutage_163 : decode cX6_addOutage 163 = .ok (.putfield 104, 3) := by decide +kernel
theorem dX6_addOutage_166 : decode cX6_addOutage 166 = .ok (.iload 4, 2) := by decide +kernel
theorem dX6_addOutage_168 : decode cX6_addOutage 168 = .ok (.ireturn, 1) := by decide +kernel
set_option maxRecDepth 20000 in
theorem ggX6_setHandover_X6_isIn : GoodIn wsX6_setHandover wsX6_isIn := goodIn_r _ [6] (by decide +kernel) (by decide +kernel)
set_option maxRecDepth 20000 in
theorem gX6_setHandover_X6_isIn : GoodIn wsX6_setHandover (va_wsS RX6 71 yX6_isIn wsX6_isIn) := goodIn_app (goodIn_of _ (by decide +kernel)) ggX6_setHandover_X6_isIn
set_option maxRecDepth 20000 in
theorem ggX6_setHandover_X6_fail : GoodIn wsX6_setHandover wsX6_fail := goodIn_r _ [10, 1, 11, 12, 13, 14, 15, 16, 17, 18, 19, 20, 21, 22, 23, 24, 25, 26, 27, 28, 29, 30, 31, 32, 33, 34, 35, 36] (by decide +kernel) (by decide +kernel)
set_option maxRecDepth 20000 in
theorem gX6_setHandover_X6_fail : GoodIn wsX6_setHandover (wsV RX6 81 RX6 yX6_fail wsX6_fail) := goodIn_app (goodIn_of _ (by decide +kernel)) ggX6_setHandover_X6_fail
theorem dX6_setHandover_0 : decode cX6_setHandover 0 = .ok (.aload_n 0, 1) := by decide +kernel
theorem dX6_setHandover_1 : decode cX6_setHandover 1 = .ok (.iconst 0, 1) := by decide +kernel
theorem dX6_setHandover_2 : decode cX6_setHandover 2 = .ok (.putfield 65, 3) := by decide +kernel
theorem dX6_setHandover_5 : decode cX6_setHandover 5 = .ok (.iload_n 1, 1) := by decide +kernel
theorem dX6_setHandover_6 : decode cX6_setHandover 6 = .ok (.iconst 0, 1) := by decide +kernel
theorem dX6_setHandover_7 : decode cX6_setHandover 7 = .ok (.bipush 60, 2) := by decide +kernel
theorem dX6_setHandover_9 : decode cX6_setHandover 9 = .ok (.invokestatic 71, 3) := by decide +kernel
theorem dX6_setHandover_12 : decode cX6_setHandover 12 = .ok (.ifCond .ne 9, 3) := by decide +kernel
theorem dX6_setHandover_15 : decode cX6_setHandover 15 = .ok (.aload_n 0, 1) := by decide +kernel
theorem dX6_setHandover_16 : decode cX6_setHandover 16 = .ok (.iconst 1, 1) := by decide +kernel
theorem dX6_setHandover_17 : decode cX6_setHandover 17 = .ok (.invokevirtual 81, 3) := by decide +kernel
theorem dX6_setHandover_20 : decode cX6_setHandover 20 = .ok (.ireturn, 1) := by decide +kernel
theorem dX6_setHandover_21 : decode cX6_setHandover 21 = .ok (.aload_n 0, 1) := by decide +kernel
theorem dX6_setHandover_22 : decode cX6_setHandover 22 = .ok (.getfield 7, 3) := by decide +kernel
theorem dX6_setHandover_25 : decode cX6_setHandover 25 = .ok (.istore_n 2, 1) := by decide +kernel
theorem dX6_setHandover_26 : decode cX6_setHandover 26 = .ok (.aload_n 0, 1) := by decide +kernel
theorem dX6_setHandover_27 : decode cX6_setHandover 27 = .ok (.iload_n 1, 1) := by decide +kernel
theorem dX6_setHandover_28 : decode cX6_setHandover 28 = .ok (.putfield 7, 3) := by decide +kernel
theorem dX6_setHandover_31 : decode cX6_setHandover 31 = .ok (.iload_n 2, 1) := by decide +kernel
theorem dX6_setHandover_32 : decode cX6_setHandover 32 = .ok (.ireturn, 1) := by decide +kernel
set_option maxRecDepth 20000 in
theorem ggX6_count_X6_isIn : GoodIn wsX6_count wsX6_isIn := goodIn_r _ [8] (by decide +kernel) (by decide +kernel)
set_option maxRecDepth 20000 in
theorem gX6_count_X6_isIn : GoodIn wsX6_count (va_wsS RX6 71 yX6_isIn wsX6_isIn) := goodIn_app (goodIn_of _ (by decide +kernel)) ggX6_count_X6_isIn
set_option maxRecDepth 20000 in
theorem ggX6_count_X6_fail : GoodIn wsX6_count wsX6_fail := goodIn_r _ [12, 1, 13, 14, 15, 16, 17, 18, 19, 20, 21, 22, 23, 24, 25, 26, 27, 28, 29, 30, 31, 32, 33, 34, 35, 36, 37, 38] (by decide +kernel) (by decide +kernel)
set_option maxRecDepth 20000 in
theorem gX6_count_X6_fail : GoodIn wsX6_count (wsV RX6 81 RX6 yX6_fail wsX6_fail) := goodIn_app (goodIn_of _ (by decide +kernel)) ggX6_count_X6_fail
theorem dX6_count_0 : decode cX6_count 0 = .ok (.aload_n 0, 1) := by decide +kernel
theorem dX6_count_1 : decode cX6_count 1 = .ok (.iconst 0, 1) := by decide +kernel
theorem dX6_count_2 : decode cX6_count 2 = .ok (.putfield 65, 3) := by decide +kernel
theorem dX6_count_5 : decode cX6_count 5 = .ok (.iload_n 1, 1) := by decide +kernel
theorem dX6_count_6 : decode cX6_count 6 = .ok (.iconst 0, 1) := by decide +kernel
theorem dX6_count_7 : decode cX6_count 7 = .ok (.iconst 2, 1) := by decide +kernel
theorem dX6_count_8 : decode cX6_count 8 = .ok (.invokestatic 71, 3) := by decide +kernel
theorem dX6_count_11 : decode cX6_count 11 = .ok (.ifCond .ne 9, 3) := by decide +kernel
theorem dX6_count_14 : decode cX6_count 14 = .ok (.aload_n 0, 1) := by decide +kernel
theorem dX6_count_15 : decode cX6_count 15 = .ok (.iconst 1, 1) := by decide +kernel
theorem dX6_count_16 : decode cX6_count 16 = .ok (.invokevirtual 81, 3) := by decide +kernel
theorem dX6_count_19 : decode cX6_count 19 = .ok (.ireturn, 1) := by decide +kernel
theorem dX6_count_20 : decode cX6_count 20 = .ok (.iload_n 1, 1) := by decide +kernel
theorem dX6_count_21 : decode cX6_count 21 = .ok (.ifCond .ne 10, 3) := by decide +kernel
theorem dX6_count_24 : decode cX6_count 24 = .ok (.aload_n 0, 1) := by decide +kernel
theorem dX6_count_25 : decode cX6_count 25 = .ok (.getfield 68, 3) := by decide +kernel
theorem dX6_count_28 : decode cX6_count 28 = .ok (.goto 19, 3) := by decide +kernel
theorem dX6_count_31 : decode cX6_count 31 = .ok (.iload_n 1, 1) := by decide +kernel
theorem dX6_count_32 : decode cX6_count 32 = .ok (.iconst 1, 1) := by decide +kernel
theorem dX6_count_33 : decode cX6_count 33 = .ok (.if_icmp .ne 10, 3) := by decide +kernel
theorem dX6_count_36 : decode cX6_count 36 = .ok (.aload_n 0, 1) := by decide +kernel
theorem dX6_count_37 : decode cX6_count 37 = .ok (.getfield 75, 3) := by decide +kernel
theorem dX6_count_40 : decode cX6_count 40 = .ok (.goto 7, 3) := by decide +kernel
theorem dX6_count_43 : decode cX6_count 43 = .ok (.aload_n 0, 1) := by decide +kernel
theorem dX6_count_44 : decode cX6_count 44 = .ok (.getfield 78, 3) := by decide +kernel
theorem dX6_count_47 : decode cX6_count 47 = .ok (.ireturn, 1) := by decide +kernel
theorem dX6_weightOf_0 : decode cX6_weightOf 0 = .ok (.aload_n 0, 1) := by decide +kernel
theorem dX6_weightOf_1 : decode cX6_weightOf 1 = .ok (.getfield 32, 3) := by decide +kernel
theorem dX6_weightOf_4 : decode cX6_weightOf 4 = .ok (.aload_n 0, 1) := by decide +kernel
theorem dX6_weightOf_5 : decode cX6_weightOf 5 = .ok (.getfield 50, 3) := by decide +kernel
theorem dX6_weightOf_8 : decode cX6_weightOf 8 = .ok (.iload_n 1, 1) := by decide +kernel
theorem dX6_weightOf_9 : decode cX6_weightOf 9 = .ok (.iaload, 1) := by decide +kernel
theorem dX6_weightOf_10 : decode cX6_weightOf 10 = .ok (.iaload, 1) := by decide +kernel
theorem dX6_weightOf_11 : decode cX6_weightOf 11 = .ok (.aload_n 0, 1) := by decide +kernel
theorem dX6_weightOf_12 : decode cX6_weightOf 12 = .ok (.getfield 59, 3) := by decide +kernel
theorem dX6_weightOf_15 : decode cX6_weightOf 15 = .ok (.iload_n 1, 1) := by decide +kernel
theorem dX6_weightOf_16 : decode cX6_weightOf 16 = .ok (.iaload, 1) := by decide +kernel
theorem dX6_weightOf_17 : decode cX6_weightOf 17 = .ok (.aload_n 0, 1) := by decide +kernel
theorem dX6_weightOf_18 : decode cX6_weightOf 18 = .ok (.getfield 56, 3) := by decide +kernel
theorem dX6_weightOf_21 : decode cX6_weightOf 21 = .ok (.iload_n 1, 1) := by decide +kernel
theorem dX6_weightOf_22 : decode cX6_weightOf 22 = .ok (.iaload, 1) := by decide +kernel
theorem dX6_weightOf_23 : decode cX6_weightOf 23 = .ok (.isub, 1) := by decide +kernel
theorem dX6_weightOf_24 : decode cX6_weightOf 24 = .ok (.imul, 1) := by decide +kernel
theorem dX6_weightOf_25 : decode cX6_weightOf 25 = .ok (.ireturn, 1) := by decide +kernel
theorem dX6_isEarlier_0 : decode cX6_isEarlier 0 = .ok (.aload_n 0, 1) := by decide +kernel
theorem dX6_isEarlier_1 : decode cX6_isEarlier 1 = .ok (.getfield 56, 3) := by decide +kernel
theorem dX6_isEarlier_4 : decode cX6_isEarlier 4 = .ok (.iload_n 1, 1) := by decide +kernel
theorem dX6_isEarlier_5 : decode cX6_isEarlier 5 = .ok (.iaload, 1) := by decide +kernel
theorem dX6_isEarlier_6 : decode cX6_isEarlier 6 = .ok (.aload_n 0, 1) := by decide +kernel
theorem dX6_isEarlier_7 : decode cX6_isEarlier 7 = .ok (.getfield 56, 3) := by decide +kernel
theorem dX6_isEarlier_10 : decode cX6_isEarlier 10 = .ok (.iload_n 2, 1) := by decide +kernel
theorem dX6_isEarlier_11 : decode cX6_isEarlier 11 = .ok (.iaload, 1) := by decide +kernel
theorem dX6_isEarlier_12 : decode cX6_isEarlier 12 = .ok (.if_icmp .lt 23, 3) := by decide +kernel
theorem dX6_isEarlier_15 : decode cX6_isEarlier 15 = .ok (.aload_n 0, 1) := by decide +kernel
theorem dX6_isEarlier_16 : decode cX6_isEarlier 16 = .ok (.getfield 56, 3) := by decide +kernel
theorem dX6_isEarlier_19 : decode cX6_isEarlier 19 = .ok (.iload_n 1, 1) := by decide +kernel
theorem dX6_isEarlier_20 : decode cX6_isEarlier 20 = .ok (.iaload, 1) := by decide +kernel
theorem dX6_isEarlier_21 : decode cX6_isEarlier 21 = .ok (.aload_n 0, 1) := by decide +kernel
theorem dX6_isEarlier_22 : decode cX6_isEarlier 22 = .ok (.getfield 56, 3) := by decide +kernel
theorem dX6_isEarlier_25 : decode cX6_isEarlier 25 = .ok (.iload_n 2, 1) := by decide +kernel
theorem dX6_isEarlier_26 : decode cX6_isEarlier 26 = .ok (.iaload, 1) := by decide +kernel
theorem dX6_isEarlier_27 : decode cX6_isEarlier 27 = .ok (.if_icmp .ne 12, 3) := by decide +kernel
theorem dX6_isEarlier_30 : decode cX6_isEarlier 30 = .ok (.iload_n 1, 1) := by decide +kernel
theorem dX6_isEarlier_31 : decode cX6_isEarlier 31 = .ok (.iload_n 2, 1) := by decide +kernel
theorem dX6_isEarlier_32 : decode cX6_isEarlier 32 = .ok (.if_icmp .ge 7, 3) := by decide +kernel
theorem dX6_isEarlier_35 : decode cX6_isEarlier 35 = .ok (.iconst 1, 1) := by decide +kernel
theorem dX6_isEarlier_36 : decode cX6_isEarlier 36 = .ok (.goto 4, 3) := by decide +kernel
theorem dX6_isEarlier_39 : decode cX6_isEarlier 39 = .ok (.iconst 0, 1) := by decide +kernel
theorem dX6_isEarlier_40 : decode cX6_isEarlier 40 = .ok (.ireturn, 1) := by decide +kernel
set_option maxRecDepth 20000 in
theorem ggX6_startOf_X6_has : GoodIn wsX6_startOf wsX6_has := goodIn_r _ [13] (by decide +kernel) (by decide +kernel)
set_option maxRecDepth 20000 in
theorem gX6_startOf_X6_has : GoodIn wsX6_startOf (va_wsS RX6 96 yX6_has wsX6_has) := goodIn_app (goodIn_of _ (by decide +kernel)) ggX6_startOf_X6_has
set_option maxRecDepth 20000 in
theorem ggX6_startOf_X6_isEarlier : GoodIn wsX6_startOf wsX6_isEarlier := goodIn_r _ [17, 1, 18, 19, 20, 21, 22, 23, 24, 25, 26, 27, 28, 29, 30, 31, 32, 33, 34, 35, 36, 37, 38, 39, 40, 41, 42, 43] (by decide +kernel) (by decide +kernel)
set_option maxRecDepth 20000 in
theorem gX6_startOf_X6_isEarlier : GoodIn wsX6_startOf (wsV RX6 113 RX6 yX6_isEarlier wsX6_isEarlier) := goodIn_app (goodIn_of _ (by decide +kernel)) ggX6_startOf_X6_isEarlier
theorem dX6_startOf_0 : decode cX6_startOf 0 = .ok (.aload_n 0, 1) := by decide +kernel
theorem dX6_startOf_1 : decode cX6_startOf 1 = .ok (.getfield 56, 3) := by decide +kernel
theorem dX6_startOf_4 : decode cX6_startOf 4 = .ok (.iload_n 1, 1) := by decide +kernel
theorem dX6_startOf_5 : decode cX6_startOf 5 = .ok (.iaload, 1) := by decide +kernel
theorem dX6_startOf_6 : decode cX6_startOf 6 = .ok (.istore_n 2, 1) := by decide +kernel
theorem dX6_startOf_7 : decode cX6_startOf 7 = .ok (.iconst 0, 1) := by decide +kernel
theorem dX6_startOf_8 : decode cX6_startOf 8 = .ok (.istore_n 3, 1) := by decide +kernel
theorem dX6_startOf_9 : decode cX6_startOf 9 = .ok (.iload_n 3, 1) := by decide +kernel
theorem dX6_startOf_10 : decode cX6_startOf 10 = .ok (.aload_n 0, 1) := by decide +kernel
theorem dX6_startOf_11 : decode cX6_startOf 11 = .ok (.getfield 78, 3) := by decide +kernel
theorem dX6_startOf_14 : decode cX6_startOf 14 = .ok (.if_icmp .ge 60, 3) := by decide +kernel
theorem dX6_startOf_17 : decode cX6_startOf 17 = .ok (.iload_n 3, 1) := by decide +kernel
theorem dX6_startOf_18 : decode cX6_startOf 18 = .ok (.iload_n 1, 1) := by decide +kernel
theorem dX6_startOf_19 : decode cX6_startOf 19 = .ok (.if_icmp .eq 49, 3) := by decide +kernel
theorem dX6_startOf_22 : decode cX6_startOf 22 = .ok (.aload_n 0, 1) := by decide +kernel
theorem dX6_startOf_23 : decode cX6_startOf 23 = .ok (.getfield 107, 3) := by decide +kernel
theorem dX6_startOf_26 : decode cX6_startOf 26 = .ok (.iload_n 3, 1) := by decide +kernel
theorem dX6_startOf_27 : decode cX6_startOf 27 = .ok (.invokestatic 96, 3) := by decide +kernel
theorem dX6_startOf_30 : decode cX6_startOf 30 = .ok (.ifCond .eq 38, 3) := by decide +kernel
theorem dX6_startOf_33 : decode cX6_startOf 33 = .ok (.aload_n 0, 1) := by decide +kernel
theorem dX6_startOf_34 : decode cX6_startOf 34 = .ok (.getfield 50, 3) := by decide +kernel
theorem dX6_startOf_37 : decode cX6_startOf 37 = .ok (.iload_n 3, 1) := by decide +kernel
theorem dX6_startOf_38 : decode cX6_startOf 38 = .ok (.iaload, 1) := by decide +kernel
theorem dX6_startOf_39 : decode cX6_startOf 39 = .ok (.aload_n 0, 1) := by decide +kernel
theorem dX6_startOf_40 : decode cX6_startOf 40 = .ok (.getfield 50, 3) := by decide +kernel
theorem dX6_startOf_43 : decode cX6_startOf 43 = .ok (.iload_n 1, 1) := by decide +kernel
theorem dX6_startOf_44 : decode cX6_startOf 44 = .ok (.iaload, 1) := by decide +kernel
theorem dX6_startOf_45 : decode cX6_startOf 45 = .ok (.if_icmp .ne 23, 3) := by decide +kernel
theorem dX6_startOf_48 : decode cX6_startOf 48 = .ok (.aload_n 0, 1) := by decide +kernel
theorem dX6_startOf_49 : decode cX6_startOf 49 = .ok (.iload_n 3, 1) := by decide +kernel
theorem dX6_startOf_50 : decode cX6_startOf 50 = .ok (.iload_n 1, 1) := by decide +kernel
theorem dX6_startOf_51 : decode cX6_startOf 51 = .ok (.invokevirtual 113, 3) := by decide +kernel
theorem dX6_startOf_54 : decode cX6_startOf 54 = .ok (.ifCond .eq 14, 3) := by decide +kernel
theorem dX6_startOf_57 : decode cX6_startOf 57 = .ok (.iload_n 2, 1) := by decide +kernel
theorem dX6_startOf_58 : decode cX6_startOf 58 = .ok (.aload_n 0, 1) := by decide +kernel
theorem dX6_startOf_59 : decode cX6_startOf 59 = .ok (.getfield 59, 3) := by decide +kernel
theorem dX6_startOf_62 : decode cX6_startOf 62 = .ok (.iload_n 3, 1) := by decide +kernel
theorem dX6_startOf_63 : decode cX6_startOf 63 = .ok (.iaload, 1) := by decide +kernel
theorem dX6_startOf_64 : decode cX6_startOf 64 = .ok (.invokestatic 116, 3) := by decide +kernel
theorem dX6_startOf_67 : decode cX6_startOf 67 = .ok (.istore_n 2, 1) := by decide +kernel
theorem dX6_startOf_68 : decode cX6_startOf 68 = .ok (.iinc 3 1, 3) := by decide +kernel
theorem dX6_startOf_71 : decode cX6_startOf 71 = .ok (.goto (-62), 3) := by decide +kernel
theorem dX6_startOf_74 : decode cX6_startOf 74 = .ok (.iload_n 2, 1) := by decide +kernel
theorem dX6_startOf_75 : decode cX6_startOf 75 = .ok (.ireturn, 1) := by decide +kernel
set_option maxRecDepth 20000 in
theorem ggX6_told_X6_weightOf : GoodIn wsX6_told wsX6_weightOf := goodIn_r _ [11, 12, 1, 4, 3, 29, 30, 31, 32, 33, 34, 35, 36, 37, 38, 39, 40, 41, 42, 43, 44, 45, 46, 47, 48, 49, 50, 51, 52, 53, 54] (by decide +kernel) (by decide +kernel)
set_option maxRecDepth 20000 in
theorem gX6_told_X6_weightOf : GoodIn wsX6_told (wsV RX6 122 RX6 yX6_weightOf wsX6_weightOf) := goodIn_app (goodIn_of _ (by decide +kernel)) ggX6_told_X6_weightOf
set_option maxRecDepth 20000 in
theorem ggX6_told_X6_has : GoodIn wsX6_told wsX6_has := goodIn_r _ [15] (by decide +kernel) (by decide +kernel)
set_option maxRecDepth 20000 in
theorem gX6_told_X6_has : GoodIn wsX6_told (va_wsS RX6 96 yX6_has wsX6_has) := goodIn_app (goodIn_of _ (by decide +kernel)) ggX6_told_X6_has
set_option maxRecDepth 20000 in
theorem ggX6_told_X6_startOf : GoodIn wsX6_told wsX6_startOf := goodIn_r _ [19, 3, 20, 5, 1, 4, 21, 22, 23, 24, 13, 14, 10, 15, 25, 26, 27, 28, 29, 30, 31, 32, 33, 34, 35, 36, 37, 38, 39, 40, 41, 42, 43, 44, 45, 46, 47, 48, 49, 50, 51, 52, 53, 54] (by decide +kernel) (by decide +kernel)
set_option maxRecDepth 20000 in
theorem gX6_told_X6_startOf : GoodIn wsX6_told (wsV RX6 125 RX6 yX6_startOf wsX6_startOf) := goodIn_app (goodIn_of _ (by decide +kernel)) ggX6_told_X6_startOf
theorem dX6_told_0 : decode cX6_told 0 = .ok (.iload_n 2, 1) := by decide +kernel
theorem dX6_told_1 : decode cX6_told 1 = .ok (.tableswitch 101 0 6 #[43, 50, 57, 64, 71, 77, 94], 43) := by decide +kernel
theorem dX6_told_44 : decode cX6_told 44 = .ok (.aload_n 0, 1) := by decide +kernel
theorem dX6_told_45 : decode cX6_told 45 = .ok (.getfield 50, 3) := by decide +kernel
theorem dX6_told_48 : decode cX6_told 48 = .ok (.iload_n 1, 1) := by decide +kernel
theorem dX6_told_49 : decode cX6_told 49 = .ok (.iaload, 1) := by decide +kernel
theorem dX6_told_50 : decode cX6_told 50 = .ok (.ireturn, 1) := by decide +kernel
theorem dX6_told_51 : decode cX6_told 51 = .ok (.aload_n 0, 1) := by decide +kernel
theorem dX6_told_52 : decode cX6_told 52 = .ok (.getfield 53, 3) := by decide +kernel
theorem dX6_told_55 : decode cX6_told 55 = .ok (.iload_n 1, 1) := by decide +kernel
theorem dX6_told_56 : decode cX6_told 56 = .ok (.iaload, 1) := by decide +kernel
theorem dX6_told_57 : decode cX6_told 57 = .ok (.ireturn, 1) := by decide +kernel
theorem dX6_told_58 : decode cX6_told 58 = .ok (.aload_n 0, 1) := by decide +kernel
theorem dX6_told_59 : decode cX6_told 59 = .ok (.getfield 56, 3) := by decide +kernel
theorem dX6_told_62 : decode cX6_told 62 = .ok (.iload_n 1, 1) := by decide +kernel
theorem dX6_told_63 : decode cX6_told 63 = .ok (.iaload, 1) := by decide +kernel
theorem dX6_told_64 : decode cX6_told 64 = .ok (.ireturn, 1) := by decide +kernel
theorem dX6_told_65 : decode cX6_told 65 = .ok (.aload_n 0, 1) := by decide +kernel
theorem dX6_told_66 : decode cX6_told 66 = .ok (.getfield 59, 3) := by decide +kernel
theorem dX6_told_69 : decode cX6_told 69 = .ok (.iload_n 1, 1) := by decide +kernel
theorem dX6_told_70 : decode cX6_told 70 = .ok (.iaload, 1) := by decide +kernel
theorem dX6_told_71 : decode cX6_told 71 = .ok (.ireturn, 1) := by decide +kernel
theorem dX6_told_72 : decode cX6_told 72 = .ok (.aload_n 0, 1) := by decide +kernel
theorem dX6_told_73 : decode cX6_told 73 = .ok (.iload_n 1, 1) := by decide +kernel
theorem dX6_told_74 : decode cX6_told 74 = .ok (.invokevirtual 122, 3) := by decide +kernel
theorem dX6_told_77 : decode cX6_told 77 = .ok (.ireturn, 1) := by decide +kernel
theorem dX6_told_78 : decode cX6_told 78 = .ok (.aload_n 0, 1) := by decide +kernel
theorem dX6_told_79 : decode cX6_told 79 = .ok (.getfield 107, 3) := by decide +kernel
theorem dX6_told_82 : decode cX6_told 82 = .ok (.iload_n 1, 1) := by decide +kernel
theorem dX6_told_83 : decode cX6_told 83 = .ok (.invokestatic 96, 3) := by decide +kernel
theorem dX6_told_86 : decode cX6_told 86 = .ok (.ifCond .eq 7, 3) := by decide +kernel
theorem dX6_told_89 : decode cX6_told 89 = .ok (.iconst 1, 1) := by decide +kernel
theorem dX6_told_90 : decode cX6_told 90 = .ok (.goto 4, 3) := by decide +kernel
theorem dX6_told_93 : decode cX6_told 93 = .ok (.iconst 0, 1) := by decide +kernel
theorem dX6_told_94 : decode cX6_told 94 = .ok (.ireturn, 1) := by decide +kernel
theorem dX6_told_95 : decode cX6_told 95 = .ok (.aload_n 0, 1) := by decide +kernel
theorem dX6_told_96 : decode cX6_told 96 = .ok (.getfield 62, 3) := by decide +kernel
theorem dX6_told_99 : decode cX6_told 99 = .ok (.iload_n 1, 1) := by decide +kernel
theorem dX6_told_100 : decode cX6_told 100 = .ok (.iaload, 1) := by decide +kernel
theorem dX6_told_101 : decode cX6_told 101 = .ok (.ireturn, 1) := by decide +kernel
theorem dX6_told_102 : decode cX6_told 102 = .ok (.aload_n 0, 1) := by decide +kernel
theorem dX6_told_103 : decode cX6_told 103 = .ok (.getfield 107, 3) := by decide +kernel
theorem dX6_told_106 : decode cX6_told 106 = .ok (.iload_n 1, 1) := by decide +kernel
theorem dX6_told_107 : decode cX6_told 107 = .ok (.invokestatic 96, 3) := by decide +kernel
theorem dX6_told_110 : decode cX6_told 110 = .ok (.ifCond .eq 11, 3) := by decide +kernel
theorem dX6_told_113 : decode cX6_told 113 = .ok (.aload_n 0, 1) := by decide +kernel
theorem dX6_told_114 : decode cX6_told 114 = .ok (.iload_n 1, 1) := by decide +kernel
theorem dX6_told_115 : decode cX6_told 115 = .ok (.invokevirtual 125, 3) := by decide +kernel
theorem dX6_told_118 : decode cX6_told 118 = .ok (.goto 4, 3) := by decide +kernel
theorem dX6_told_121 : decode cX6_told 121 = .ok (.iconst (-1), 1) := by decide +kernel
theorem dX6_told_122 : decode cX6_told 122 = .ok (.ireturn, 1) := by decide +kernel
set_option maxRecDepth 20000 in
theorem ggX6_pass_X6_isPass : GoodIn wsX6_pass wsX6_isPass := goodIn_r _ [6, 7, 8, 9, 5, 10, 45, 46, 47, 48, 49, 50, 51, 52, 53, 54, 55, 56, 57, 58, 59, 60, 61, 62, 63, 64, 65, 66, 67, 68, 69, 70] (by decide +kernel) (by decide +kernel)
set_option maxRecDepth 20000 in
theorem gX6_pass_X6_isPass : GoodIn wsX6_pass (wsV RX6 128 RX6 yX6_isPass wsX6_isPass) := goodIn_app (goodIn_of _ (by decide +kernel)) ggX6_pass_X6_isPass
set_option maxRecDepth 20000 in
theorem ggX6_pass_X6_isIn : GoodIn wsX6_pass wsX6_isIn := goodIn_r _ [10] (by decide +kernel) (by decide +kernel)
set_option maxRecDepth 20000 in
theorem gX6_pass_X6_isIn : GoodIn wsX6_pass (va_wsS RX6 71 yX6_isIn wsX6_isIn) := goodIn_app (goodIn_of _ (by decide +kernel)) ggX6_pass_X6_isIn
set_option maxRecDepth 20000 in
theorem ggX6_pass_X6_told : GoodIn wsX6_pass wsX6_told := goodIn_r _ [14, 15, 16, 17, 18, 19, 20, 21, 22, 23, 5, 24, 25, 26, 27, 28, 29, 30, 31, 32, 7, 33, 34, 35, 36, 37, 38, 39, 40, 45, 46, 47, 48, 49, 50, 51, 52, 53, 54, 55, 56, 57, 58, 59, 60, 61, 62, 63, 64, 65, 66, 67, 68, 69, 70] (by decide +kernel) (by decide +kernel)
set_option maxRecDepth 20000 in
theorem gX6_pass_X6_told : GoodIn wsX6_pass (wsV RX6 131 RX6 yX6_told wsX6_told) := goodIn_app (goodIn_of _ (by decide +kernel)) ggX6_pass_X6_told
set_option maxRecDepth 20000 in
theorem ggX6_pass_X6_fail : GoodIn wsX6_pass wsX6_fail := goodIn_r _ [44, 1, 45, 46, 47, 48, 49, 50, 51, 52, 53, 54, 55, 56, 57, 58, 59, 60, 61, 62, 63, 64, 65, 66, 67, 68, 69, 70] (by decide +kernel) (by decide +kernel)
set_option maxRecDepth 20000 in
theorem gX6_pass_X6_fail : GoodIn wsX6_pass (wsV RX6 81 RX6 yX6_fail wsX6_fail) := goodIn_app (goodIn_of _ (by decide +kernel)) ggX6_pass_X6_fail
theorem dX6_pass_0 : decode cX6_pass 0 = .ok (.aload_n 0, 1) := by decide +kernel
theorem dX6_pass_1 : decode cX6_pass 1 = .ok (.iconst 0, 1) := by decide +kernel
theorem dX6_pass_2 : decode cX6_pass 2 = .ok (.putfield 65, 3) := by decide +kernel
theorem dX6_pass_5 : decode cX6_pass 5 = .ok (.aload_n 0, 1) := by decide +kernel
theorem dX6_pass_6 : decode cX6_pass 6 = .ok (.iload_n 1, 1) := by decide +kernel
theorem dX6_pass_7 : decode cX6_pass 7 = .ok (.invokevirtual 128, 3) := by decide +kernel
theorem dX6_pass_10 : decode cX6_pass 10 = .ok (.ifCond .eq 22, 3) := by decide +kernel
theorem dX6_pass_13 : decode cX6_pass 13 = .ok (.iload_n 2, 1) := by decide +kernel
theorem dX6_pass_14 : decode cX6_pass 14 = .ok (.iconst 0, 1) := by decide +kernel
theorem dX6_pass_15 : decode cX6_pass 15 = .ok (.bipush 7, 2) := by decide +kernel
theorem dX6_pass_17 : decode cX6_pass 17 = .ok (.invokestatic 71, 3) := by decide +kernel
theorem dX6_pass_20 : decode cX6_pass 20 = .ok (.ifCond .eq 12, 3) := by decide +kernel
theorem dX6_pass_23 : decode cX6_pass 23 = .ok (.aload_n 0, 1) := by decide +kernel
theorem dX6_pass_24 : decode cX6_pass 24 = .ok (.iload_n 1, 1) := by decide +kernel
theorem dX6_pass_25 : decode cX6_pass 25 = .ok (.iload_n 2, 1) := by decide +kernel
theorem dX6_pass_26 : decode cX6_pass 26 = .ok (.invokevirtual 131, 3) := by decide +kernel
theorem dX6_pass_29 : decode cX6_pass 29 = .ok (.goto 8, 3) := by decide +kernel
theorem dX6_pass_32 : decode cX6_pass 32 = .ok (.aload_n 0, 1) := by decide +kernel
theorem dX6_pass_33 : decode cX6_pass 33 = .ok (.iconst 1, 1) := by decide +kernel
theorem dX6_pass_34 : decode cX6_pass 34 = .ok (.invokevirtual 81, 3) := by decide +kernel
theorem dX6_pass_37 : decode cX6_pass 37 = .ok (.ireturn, 1) := by decide +kernel
set_option maxRecDepth 20000 in
theorem ggX6_areInConflict_X6_isEarlier : GoodIn wsX6_areInConflict wsX6_isEarlier := goodIn_r _ [11, 2, 12, 13, 14, 15, 16, 17, 18, 19, 20, 21, 22, 23, 24, 25, 26, 27, 28, 29, 30, 31, 32, 33, 34, 35, 36, 37] (by decide +kernel) (by decide +kernel)
set_option maxRecDepth 20000 in
theorem gX6_areInConflict_X6_isEarlier : GoodIn wsX6_areInConflict (wsV RX6 113 RX6 yX6_isEarlier wsX6_isEarlier) := goodIn_app (goodIn_of _ (by decide +kernel)) ggX6_areInConflict_X6_isEarlier
theorem dX6_areInConflict_0 : decode cX6_areInConflict 0 = .ok (.aload_n 0, 1) := by decide +kernel
theorem dX6_areInConflict_1 : decode cX6_areInConflict 1 = .ok (.iload_n 1, 1) := by decide +kernel
theorem dX6_areInConflict_2 : decode cX6_areInConflict 2 = .ok (.iload_n 2, 1) := by decide +kernel
theorem dX6_areInConflict_3 : decode cX6_areInConflict 3 = .ok (.invokevirtual 113, 3) := by decide +kernel
theorem dX6_areInConflict_6 : decode cX6_areInConflict 6 = .ok (.ifCond .eq 7, 3) := by decide +kernel
theorem dX6_areInConflict_9 : decode cX6_areInConflict 9 = .ok (.iload_n 1, 1) := by decide +kernel
theorem dX6_areInConflict_10 : decode cX6_areInConflict 10 = .ok (.goto 4, 3) := by decide +kernel
theorem dX6_areInConflict_13 : decode cX6_areInConflict 13 = .ok (.iload_n 2, 1) := by decide +kernel
theorem dX6_areInConflict_14 : decode cX6_areInConflict 14 = .ok (.istore_n 3, 1) := by decide +kernel
theorem dX6_areInConflict_15 : decode cX6_areInConflict 15 = .ok (.iload_n 3, 1) := by decide +kernel
theorem dX6_areInConflict_16 : decode cX6_areInConflict 16 = .ok (.iload_n 1, 1) := by decide +kernel
theorem dX6_areInConflict_17 : decode cX6_areInConflict 17 = .ok (.if_icmp .ne 7, 3) := by decide +kernel
theorem dX6_areInConflict_20 : decode cX6_areInConflict 20 = .ok (.iload_n 2, 1) := by decide +kernel
theorem dX6_areInConflict_21 : decode cX6_areInConflict 21 = .ok (.goto 4, 3) := by decide +kernel
theorem dX6_areInConflict_24 : decode cX6_areInConflict 24 = .ok (.iload_n 1, 1) := by decide +kernel
theorem dX6_areInConflict_25 : decode cX6_areInConflict 25 = .ok (.istore 4, 2) := by decide +kernel
theorem dX6_areInConflict_27 : decode cX6_areInConflict 27 = .ok (.aload_n 0, 1) := by decide +kernel
theorem dX6_areInConflict_28 : decode cX6_areInConflict 28 = .ok (.getfield 53, 3) := by decide +kernel
theorem dX6_areInConflict_31 : decode cX6_areInConflict 31 = .ok (.iload_n 1, 1) := by decide +kernel
theorem dX6_areInConflict_32 : decode cX6_areInConflict 32 = .ok (.iaload, 1) := by decide +kernel
theorem dX6_areInConflict_33 : decode cX6_areInConflict 33 = .ok (.aload_n 0, 1) := by decide +kernel
theorem dX6_areInConflict_34 : decode cX6_areInConflict 34 = .ok (.getfield 53, 3) := by decide +kernel
theorem dX6_areInConflict_37 : decode cX6_areInConflict 37 = .ok (.iload_n 2, 1) := by decide +kernel
theorem dX6_areInConflict_38 : decode cX6_areInConflict 38 = .ok (.iaload, 1) := by decide +kernel
theorem dX6_areInConflict_39 : decode cX6_areInConflict 39 = .ok (.if_icmp .ne 37, 3) := by decide +kernel
theorem dX6_areInConflict_42 : decode cX6_areInConflict 42 = .ok (.aload_n 0, 1) := by decide +kernel
theorem dX6_areInConflict_43 : decode cX6_areInConflict 43 = .ok (.getfield 56, 3) := by decide +kernel
theorem dX6_areInConflict_46 : decode cX6_areInConflict 46 = .ok (.iload 4, 2) := by decide +kernel
theorem dX6_areInConflict_48 : decode cX6_areInConflict 48 = .ok (.iaload, 1) := by decide +kernel
theorem dX6_areInConflict_49 : decode cX6_areInConflict 49 = .ok (.aload_n 0, 1) := by decide +kernel
theorem dX6_areInConflict_50 : decode cX6_areInConflict 50 = .ok (.getfield 59, 3) := by decide +kernel
theorem dX6_areInConflict_53 : decode cX6_areInConflict 53 = .ok (.iload_n 3, 1) := by decide +kernel
theorem dX6_areInConflict_54 : decode cX6_areInConflict 54 = .ok (.iaload, 1) := by decide +kernel
theorem dX6_areInConflict_55 : decode cX6_areInConflict 55 = .ok (.aload_n 0, 1) := by decide +kernel
theorem dX6_areInConflict_56 : decode cX6_areInConflict 56 = .ok (.getfield 17, 3) := by decide +kernel
theorem dX6_areInConflict_59 : decode cX6_areInConflict 59 = .ok (.aload_n 0, 1) := by decide +kernel
theorem dX6_areInConflict_60 : decode cX6_areInConflict 60 = .ok (.getfield 53, 3) := by decide +kernel
theorem dX6_areInConflict_63 : decode cX6_areInConflict 63 = .ok (.iload_n 1, 1) := by decide +kernel
theorem dX6_areInConflict_64 : decode cX6_areInConflict 64 = .ok (.iaload, 1) := by decide +kernel
theorem dX6_areInConflict_65 : decode cX6_areInConflict 65 = .ok (.iaload, 1) := by decide +kernel
theorem dX6_areInConflict_66 : decode cX6_areInConflict 66 = .ok (.iadd, 1) := by decide +kernel
theorem dX6_areInConflict_67 : decode cX6_areInConflict 67 = .ok (.if_icmp .ge 7, 3) := by decide +kernel
theorem dX6_areInConflict_70 : decode cX6_areInConflict 70 = .ok (.iconst 1, 1) := by decide +kernel
theorem dX6_areInConflict_71 : decode cX6_areInConflict 71 = .ok (.goto 4, 3) := by decide +kernel
theorem dX6_areInConflict_74 : decode cX6_areInConflict 74 = .ok (.iconst 0, 1) := by decide +kernel
theorem dX6_areInConflict_75 : decode cX6_areInConflict 75 = .ok (.ireturn, 1) := by decide +kernel
theorem dX6_areInConflict_76 : decode cX6_areInConflict 76 = .ok (.aload_n 0, 1) := by decide +kernel
theorem dX6_areInConflict_77 : decode cX6_areInConflict 77 = .ok (.getfield 50, 3) := by decide +kernel
theorem dX6_areInConflict_80 : decode cX6_areInConflict 80 = .ok (.iload_n 1, 1) := by decide +kernel
theorem dX6_areInConflict_81 : decode cX6_areInConflict 81 = .ok (.iaload, 1) := by decide +kernel
theorem dX6_areInConflict_82 : decode cX6_areInConflict 82 = .ok (.aload_n 0, 1) := by decide +kernel
theorem dX6_areInConflict_83 : decode cX6_areInConflict 83 = .ok (.getfield 50, 3) := by decide +kernel
theorem dX6_areInConflict_86 : decode cX6_areInConflict 86 = .ok (.iload_n 2, 1) := by decide +kernel
theorem dX6_areInConflict_87 : decode cX6_areInConflict 87 = .ok (.iaload, 1) := by decide +kernel
theorem dX6_areInConflict_88 : decode cX6_areInConflict 88 = .ok (.if_icmp .ne 44, 3) := by decide +kernel
theorem dX6_areInConflict_91 : decode cX6_areInConflict 91 = .ok (.aload_n 0, 1) := by decide +kernel
theorem dX6_areInConflict_92 : decode cX6_areInConflict 92 = .ok (.getfield 59, 3) := by decide +kernel
theorem dX6_areInConflict_95 : decode cX6_areInConflict 95 = .ok (.iload 4, 2) := by decide +kernel
theorem dX6_areInConflict_97 : decode cX6_areInConflict 97 = .ok (.iaload, 1) := by decide +kernel
theorem dX6_areInConflict_98 : decode cX6_areInConflict 98 = .ok (.aload_n 0, 1) := by decide +kernel
theorem dX6_areInConflict_99 : decode cX6_areInConflict 99 = .ok (.getfield 59, 3) := by decide +kernel
theorem dX6_areInConflict_102 : decode cX6_areInConflict 102 = .ok (.iload_n 3, 1) := by decide +kernel
theorem dX6_areInConflict_103 : decode cX6_areInConflict 103 = .ok (.iaload, 1) := by decide +kernel
theorem dX6_areInConflict_104 : decode cX6_areInConflict 104 = .ok (.if_icmp .le 24, 3) := by decide +kernel
theorem dX6_areInConflict_107 : decode cX6_areInConflict 107 = .ok (.aload_n 0, 1) := by decide +kernel
theorem dX6_areInConflict_108 : decode cX6_areInConflict 108 = .ok (.getfield 59, 3) := by decide +kernel
theorem dX6_areInConflict_111 : decode cX6_areInConflict 111 = .ok (.iload_n 3, 1) := by decide +kernel
theorem dX6_areInConflict_112 : decode cX6_areInConflict 112 = .ok (.iaload, 1) := by decide +kernel
theorem dX6_areInConflict_113 : decode cX6_areInConflict 113 = .ok (.aload_n 0, 1) := by decide +kernel
theorem dX6_areInConflict_114 : decode cX6_areInConflict 114 = .ok (.getfield 56, 3) := by decide +kernel
theorem dX6_areInConflict_117 : decode cX6_areInConflict 117 = .ok (.iload 4, 2) := by decide +kernel
theorem dX6_areInConflict_119 : decode cX6_areInConflict 119 = .ok (.iaload, 1) := by decide +kernel
theorem dX6_areInConflict_120 : decode cX6_areInConflict 120 = .ok (.isub, 1) := by decide +kernel
theorem dX6_areInConflict_121 : decode cX6_areInConflict 121 = .ok (.aload_n 0, 1) := by decide +kernel
theorem dX6_areInConflict_122 : decode cX6_areInConflict 122 = .ok (.getfield 7, 3) := by decide +kernel
theorem dX6_areInConflict_125 : decode cX6_areInConflict 125 = .ok (.if_icmp .le 7, 3) := by decide +kernel
theorem dX6_areInConflict_128 : decode cX6_areInConflict 128 = .ok (.iconst 1, 1) := by decide +kernel
theorem dX6_areInConflict_129 : decode cX6_areInConflict 129 = .ok (.goto 4, 3) := by decide +kernel
theorem dX6_areInConflict_132 : decode cX6_areInConflict 132 = .ok (.iconst 0, 1) := by decide +kernel
theorem dX6_areInConflict_133 : decode cX6_areInConflict 133 = .ok (.ireturn, 1) := by decide +kernel
set_option maxRecDepth 20000 in
theorem ggX6_conflictsOf_X6_areInConflict : GoodIn wsX6_conflictsOf wsX6_areInConflict := goodIn_r _ [6, 7, 8, 9, 10, 11, 12, 13, 14, 15, 5, 16, 17, 18, 19, 20, 21, 22, 23, 24, 25, 26, 27, 28, 29, 30, 31, 32, 33, 34, 35, 36, 37, 38, 39, 40, 41, 42] (by decide +kernel) (by decide +kernel)
set_option maxRecDepth 20000 in
theorem gX6_conflictsOf_X6_areInConflict : GoodIn wsX6_conflictsOf (wsV RX6 134 RX6 yX6_areInConflict wsX6_areInConflict) := goodIn_app (goodIn_of _ (by decide +kernel)) ggX6_conflictsOf_X6_areInConflict
theorem dX6_conflictsOf_0 : decode cX6_conflictsOf 0 = .ok (.iconst 0, 1) := by decide +kernel
theorem dX6_conflictsOf_1 : decode cX6_conflictsOf 1 = .ok (.istore_n 2, 1) := by decide +kernel
theorem dX6_conflictsOf_2 : decode cX6_conflictsOf 2 = .ok (.iconst 0, 1) := by decide +kernel
theorem dX6_conflictsOf_3 : decode cX6_conflictsOf 3 = .ok (.istore_n 3, 1) := by decide +kernel
theorem dX6_conflictsOf_4 : decode cX6_conflictsOf 4 = .ok (.iload_n 3, 1) := by decide +kernel
theorem dX6_conflictsOf_5 : decode cX6_conflictsOf 5 = .ok (.aload_n 0, 1) := by decide +kernel
theorem dX6_conflictsOf_6 : decode cX6_conflictsOf 6 = .ok (.getfield 78, 3) := by decide +kernel
theorem dX6_conflictsOf_9 : decode cX6_conflictsOf 9 = .ok (.if_icmp .ge 29, 3) := by decide +kernel
theorem dX6_conflictsOf_12 : decode cX6_conflictsOf 12 = .ok (.iload_n 3, 1) := by decide +kernel
theorem dX6_conflictsOf_13 : decode cX6_conflictsOf 13 = .ok (.iload_n 1, 1) := by decide +kernel
theorem dX6_conflictsOf_14 : decode cX6_conflictsOf 14 = .ok (.if_icmp .eq 18, 3) := by decide +kernel
theorem dX6_conflictsOf_17 : decode cX6_conflictsOf 17 = .ok (.aload_n 0, 1) := by decide +kernel
theorem dX6_conflictsOf_18 : decode cX6_conflictsOf 18 = .ok (.iload_n 3, 1) := by decide +kernel
theorem dX6_conflictsOf_19 : decode cX6_conflictsOf 19 = .ok (.iload_n 1, 1) := by decide +kernel
theorem dX6_conflictsOf_20 : decode cX6_conflictsOf 20 = .ok (.invokevirtual 134, 3) := by decide +kernel
theorem dX6_conflictsOf_23 : decode cX6_conflictsOf 23 = .ok (.ifCond .eq 9, 3) := by decide +kernel
theorem dX6_conflictsOf_26 : decode cX6_conflictsOf 26 = .ok (.iload_n 2, 1) := by decide +kernel
theorem dX6_conflictsOf_27 : decode cX6_conflictsOf 27 = .ok (.iconst 1, 1) := by decide +kernel
theorem dX6_conflictsOf_28 : decode cX6_conflictsOf 28 = .ok (.iload_n 3, 1) := by decide +kernel
theorem dX6_conflictsOf_29 : decode cX6_conflictsOf 29 = .ok (.ishl, 1) := by decide +kernel
theorem dX6_conflictsOf_30 : decode cX6_conflictsOf 30 = .ok (.ior, 1) := by decide +kernel
theorem dX6_conflictsOf_31 : decode cX6_conflictsOf 31 = .ok (.istore_n 2, 1) := by decide +kernel
theorem dX6_conflictsOf_32 : decode cX6_conflictsOf 32 = .ok (.iinc 3 1, 3) := by decide +kernel
theorem dX6_conflictsOf_35 : decode cX6_conflictsOf 35 = .ok (.goto (-31), 3) := by decide +kernel
theorem dX6_conflictsOf_38 : decode cX6_conflictsOf 38 = .ok (.iload_n 2, 1) := by decide +kernel
theorem dX6_conflictsOf_39 : decode cX6_conflictsOf 39 = .ok (.ireturn, 1) := by decide +kernel
set_option maxRecDepth 20000 in
theorem ggX6_isConflict_X6_isPass : GoodIn wsX6_isConflict wsX6_isPass := goodIn_r _ [6, 7, 8, 9, 5, 10, 25, 26, 27, 28, 29, 30, 31, 32, 33, 34, 35, 36, 37, 38, 39, 40, 41, 42, 43, 44, 45, 46, 47, 48, 49, 50] (by decide +kernel) (by decide +kernel)
set_option maxRecDepth 20000 in
theorem gX6_isConflict_X6_isPass : GoodIn wsX6_isConflict (wsV RX6 128 RX6 yX6_isPass wsX6_isPass) := goodIn_app (goodIn_of _ (by decide +kernel)) ggX6_isConflict_X6_isPass
set_option maxRecDepth 20000 in
theorem ggX6_isConflict_X6_areInConflict : GoodIn wsX6_isConflict wsX6_areInConflict := goodIn_r _ [14, 15, 16, 17, 18, 19, 20, 21, 22, 23, 5, 24, 25, 26, 27, 28, 29, 30, 31, 32, 33, 34, 35, 36, 37, 38, 39, 40, 41, 42, 43, 44, 45, 46, 47, 48, 49, 50] (by decide +kernel) (by decide +kernel)
set_option maxRecDepth 20000 in
theorem gX6_isConflict_X6_areInConflict : GoodIn wsX6_isConflict (wsV RX6 134 RX6 yX6_areInConflict wsX6_areInConflict) := goodIn_app (goodIn_of _ (by decide +kernel)) ggX6_isConflict_X6_areInConflict
theorem dX6_isConflict_0 : decode cX6_isConflict 0 = .ok (.aload_n 0, 1) := by decide +kernel
theorem dX6_isConflict_1 : decode cX6_isConflict 1 = .ok (.aload_n 0, 1) := by decide +kernel
theorem dX6_isConflict_2 : decode cX6_isConflict 2 = .ok (.iload_n 1, 1) := by decide +kernel
theorem dX6_isConflict_3 : decode cX6_isConflict 3 = .ok (.invokevirtual 128, 3) := by decide +kernel
theorem dX6_isConflict_6 : decode cX6_isConflict 6 = .ok (.ifCond .eq 11, 3) := by decide +kernel
theorem dX6_isConflict_9 : decode cX6_isConflict 9 = .ok (.aload_n 0, 1) := by decide +kernel
theorem dX6_isConflict_10 : decode cX6_isConflict 10 = .ok (.iload_n 2, 1) := by decide +kernel
theorem dX6_isConflict_11 : decode cX6_isConflict 11 = .ok (.invokevirtual 128, 3) := by decide +kernel
theorem dX6_isConflict_14 : decode cX6_isConflict 14 = .ok (.ifCond .ne 7, 3) := by decide +kernel
theorem dX6_isConflict_17 : decode cX6_isConflict 17 = .ok (.iconst 1, 1) := by decide +kernel
theorem dX6_isConflict_18 : decode cX6_isConflict 18 = .ok (.goto 13, 3) := by decide +kernel
theorem dX6_isConflict_21 : decode cX6_isConflict 21 = .ok (.iload_n 1, 1) := by decide +kernel
theorem dX6_isConflict_22 : decode cX6_isConflict 22 = .ok (.iload_n 2, 1) := by decide +kernel
theorem dX6_isConflict_23 : decode cX6_isConflict 23 = .ok (.if_icmp .ne 7, 3) := by decide +kernel
theorem dX6_isConflict_26 : decode cX6_isConflict 26 = .ok (.iconst 2, 1) := by decide +kernel
theorem dX6_isConflict_27 : decode cX6_isConflict 27 = .ok (.goto 4, 3) := by decide +kernel
theorem dX6_isConflict_30 : decode cX6_isConflict 30 = .ok (.iconst 0, 1) := by decide +kernel
