theorem dL_below_0 : decode cL_below 0 = .ok (.iload_n 0, 1) := by decide +kernel
theorem dL_below_1 : decode cL_below 1 = .ok (.ldc 7, 2) := by decide +kernel
theorem dL_below_3 : decode cL_below 3 = .ok (.iand, 1) := by decide +kernel
theorem dL_below_4 : decode cL_below 4 = .ok (.iload_n 1, 1) := by decide +kernel
theorem dL_below_5 : decode cL_below 5 = .ok (.irem, 1) := by decide +kernel
theorem dL_below_6 : decode cL_below 6 = .ok (.ireturn, 1) := by decide +kernel
theorem dL_cell_0 : decode cL_cell 0 = .ok (.iload_n 1, 1) := by decide +kernel
theorem dL_cell_1 : decode cL_cell 1 = .ok (.aload_n 0, 1) := by decide +kernel
theorem dL_cell_2 : decode cL_cell 2 = .ok (.arraylength, 1) := by decide +kernel
theorem dL_cell_3 : decode cL_cell 3 = .ok (.if_icmp .ge 9, 3) := by decide +kernel
theorem dL_cell_6 : decode cL_cell 6 = .ok (.aload_n 0, 1) := by decide +kernel
theorem dL_cell_7 : decode cL_cell 7 = .ok (.iload_n 1, 1) := by decide +kernel
theorem dL_cell_8 : decode cL_cell 8 = .ok (.iaload, 1) := by decide +kernel
theorem dL_cell_9 : decode cL_cell 9 = .ok (.goto 9, 3) := by decide +kernel
theorem dL_cell_12 : decode cL_cell 12 = .ok (.ldc 8, 2) := by decide +kernel
theorem dL_cell_14 : decode cL_cell 14 = .ok (.iload_n 1, 1) := by decide +kernel
theorem dL_cell_15 : decode cL_cell 15 = .ok (.iconst 3, 1) := by decide +kernel
theorem dL_cell_16 : decode cL_cell 16 = .ok (.iadd, 1) := by decide +kernel
theorem dL_cell_17 : decode cL_cell 17 = .ok (.imul, 1) := by decide +kernel
theorem dL_cell_18 : decode cL_cell 18 = .ok (.ireturn, 1) := by decide +kernel
set_option maxRecDepth 20000 in
theorem ggL_build_L_cell : GoodIn wsL_build wsL_cell := goodIn_r _ [6, 7] (by decide +kernel) (by decide +kernel)
set_option maxRecDepth 20000 in
theorem gL_build_L_cell : GoodIn wsL_build (va_wsS RL 9 yL_cell wsL_cell) := goodIn_app (goodIn_of _ (by decide +kernel)) ggL_build_L_cell
set_option maxRecDepth 20000 in
theorem ggL_build_L_below : GoodIn wsL_build wsL_below := goodIn_r _ [10, 11] (by decide +kernel) (by decide +kernel)
set_option maxRecDepth 20000 in
theorem gL_build_L_below : GoodIn wsL_build (va_wsS RL 15 yL_below wsL_below) := goodIn_app (goodIn_of _ (by decide +kernel)) ggL_build_L_below
set_option maxRecDepth 20000 in
theorem ggL_build_X5_addAntenna : GoodIn wsL_build wsX5_addAntenna := goodIn_ca (goodIn_ca (goodIn_r _ [16, 17, 18, 19, 20, 21, 22, 23, 24, 25, 26, 15, 27, 28, 29, 30, 31, 32, 33, 34, 35, 36, 37, 38, 39, 40, 41, 42, 43, 44, 45, 46, 47, 48, 49, 50, 51, 52, 53, 54, 55, 56, 57, 58, 59, 60, 61, 62, 63, 64, 65, 66, 67, 68, 69, 70, 71, 72, 73, 74, 75, 76, 77, 78, 79, 80, 81, 82, 83, 84, 85, 86, 87, 88, 89, 90, 91, 92, 93, 94, 95, 96, 97, 98, 181, 182, 183, 184, 185, 186, 187, 188, 189, 190, 191, 192, 193, 194, 195] (by decide +kernel) (by decide +kernel)) (goodIn_sub (fun _ h => List.mem_cons_of_mem _ (List.mem_append_left _ (List.mem_append_left _ (List.mem_append_right _ h)))) (by decide +kernel))) (goodIn_sub (fun _ h => List.mem_cons_of_mem _ (List.mem_append_left _ (List.mem_append_right _ h))) (by decide +kernel))
set_option maxRecDepth 20000 in
theorem gL_build_X5_addAntenna : GoodIn wsL_build (wsV RL 19 RX5 yX5_addAntenna wsX5_addAntenna) := goodIn_app (goodIn_of _ (by decide +kernel)) ggL_build_X5_addAntenna
set_option maxRecDepth 20000 in
theorem ggL_build_X5_addSatellite : GoodIn wsL_build wsX5_addSatellite := goodIn_ca (goodIn_ca (goodIn_r _ [102, 17, 18, 19, 20, 103, 104, 105, 106, 107, 25, 26, 15, 27, 28, 29, 30, 31, 32, 33, 108, 109, 110, 111, 38, 39, 112, 113, 114, 115, 116, 117, 118, 119, 45, 46, 47, 48, 49, 50, 51, 52, 53, 54, 55, 56, 57, 58, 59, 60, 61, 62, 63, 64, 65, 66, 67, 68, 69, 70, 71, 72, 73, 74, 75, 76, 77, 78, 79, 80, 81, 82, 83, 84, 85, 86, 87, 88, 89, 90, 91, 92, 93, 94, 95, 96, 97, 98, 181, 182, 183, 184, 185, 186, 187, 196, 197, 198, 199, 200, 201, 202, 203, 193, 194, 195] (by decide +kernel) (by decide +kernel)) (goodIn_sub (fun _ h => List.mem_cons_of_mem _ (List.mem_append_left _ (List.mem_append_left _ (List.mem_append_right _ h)))) (by decide +kernel))) (goodIn_sub (fun _ h => List.mem_cons_of_mem _ (List.mem_append_left _ (List.mem_append_right _ h))) (by decide +kernel))
set_option maxRecDepth 20000 in
theorem gL_build_X5_addSatellite : GoodIn wsL_build (wsV RL 25 RX5 yX5_addSatellite wsX5_addSatellite) := goodIn_app (goodIn_of _ (by decide +kernel)) ggL_build_X5_addSatellite
set_option maxRecDepth 20000 in
theorem ggL_build_X5_addPass : GoodIn wsL_build wsX5_addPass := goodIn_ca (goodIn_ca (goodIn_ca (goodIn_r _ [123, 17, 18, 19, 20, 124, 125, 126, 127, 128, 129, 130, 131, 132, 15, 133, 134, 135, 104, 136, 28, 29, 30, 31, 32, 33, 137, 138, 139, 140, 141, 142, 143, 144, 145, 146, 147, 148, 149, 150, 151, 152, 51, 153, 154, 155, 156, 21, 157, 158, 159, 160, 161, 162, 163, 164, 165, 166, 167, 168, 169, 38, 39, 170, 171, 172, 173, 174, 175, 176, 45, 46, 47, 48, 49, 50, 52, 53, 54, 55, 56, 57, 58, 59, 60, 61, 62, 63, 64, 65, 66, 67, 68, 69, 70, 71, 72, 73, 74, 75, 76, 77, 78, 79, 80, 81, 82, 83, 84, 85, 86, 87, 88, 89, 90, 91, 92, 93, 94, 95, 96, 97, 98, 188, 189, 190, 191, 192, 196, 197, 198, 199, 200, 201, 202, 203, 181, 182, 183, 184, 185, 186, 187, 204, 205, 206, 207, 208, 209, 210, 193, 194, 195] (by decide +kernel) (by decide +kernel)) (goodIn_sub (fun _ h => List.mem_cons_of_mem _ (List.mem_append_left _ (List.mem_append_left _ (List.mem_append_right _ h)))) (by decide +kernel))) (goodIn_sub (fun _ h => List.mem_cons_of_mem _ (List.mem_append_left _ (List.mem_append_right _ h))) (by decide +kernel))) (goodIn_sub (fun _ h => List.mem_cons_of_mem _ (List.mem_append_right _ h)) (by decide +kernel))
set_option maxRecDepth 20000 in
theorem gL_build_X5_addPass : GoodIn wsL_build (wsV RL 29 RX5 yX5_addPass wsX5_addPass) := goodIn_app (goodIn_of _ (by decide +kernel)) ggL_build_X5_addPass
set_option maxRecDepth 20000 in
theorem ggL_build_X5_count : GoodIn wsL_build wsX5_count := goodIn_ca (goodIn_r _ [180, 134, 135, 21, 104, 126, 28, 29, 30, 31, 32, 33, 181, 182, 183, 184, 185, 186, 187, 193, 194, 195] (by decide +kernel) (by decide +kernel)) (goodIn_sub (fun _ h => List.mem_cons_of_mem _ (List.mem_append_right _ h)) (by decide +kernel))
set_option maxRecDepth 20000 in
theorem gL_build_X5_count : GoodIn wsL_build (wsV RL 34 RX5 yX5_count wsX5_count) := goodIn_app (goodIn_of _ (by decide +kernel)) ggL_build_X5_count
theorem dL_build_0 : decode cL_build 0 = .ok (.iconst 3, 1) := by decide +kernel
theorem dL_build_1 : decode cL_build 1 = .ok (.newarray .int, 2) := by decide +kernel
theorem dL_build_3 : decode cL_build 3 = .ok (.dup, 1) := by decide +kernel
theorem dL_build_4 : decode cL_build 4 = .ok (.iconst 0, 1) := by decide +kernel
theorem dL_build_5 : decode cL_build 5 = .ok (.iconst 1, 1) := by decide +kernel
theorem dL_build_6 : decode cL_build 6 = .ok (.aload_n 1, 1) := by decide +kernel
theorem dL_build_7 : decode cL_build 7 = .ok (.iload_n 2, 1) := by decide +kernel
theorem dL_build_8 : decode cL_build 8 = .ok (.invokestatic 9, 3) := by decide +kernel
theorem dL_build_11 : decode cL_build 11 = .ok (.iconst 3, 1) := by decide +kernel
theorem dL_build_12 : decode cL_build 12 = .ok (.invokestatic 15, 3) := by decide +kernel
theorem dL_build_15 : decode cL_build 15 = .ok (.iadd, 1) := by decide +kernel
theorem dL_build_16 : decode cL_build 16 = .ok (.iastore, 1) := by decide +kernel
theorem dL_build_17 : decode cL_build 17 = .ok (.dup, 1) := by decide +kernel
theorem dL_build_18 : decode cL_build 18 = .ok (.iconst 1, 1) := by decide +kernel
theorem dL_build_19 : decode cL_build 19 = .ok (.iconst 1, 1) := by decide +kernel
theorem dL_build_20 : decode cL_build 20 = .ok (.aload_n 1, 1) := by decide +kernel
theorem dL_build_21 : decode cL_build 21 = .ok (.iload_n 2, 1) := by decide +kernel
theorem dL_build_22 : decode cL_build 22 = .ok (.invokestatic 9, 3) := by decide +kernel
theorem dL_build_25 : decode cL_build 25 = .ok (.iconst 3, 1) := by decide +kernel
theorem dL_build_26 : decode cL_build 26 = .ok (.ishr, 1) := by decide +kernel
theorem dL_build_27 : decode cL_build 27 = .ok (.iconst 3, 1) := by decide +kernel
theorem dL_build_28 : decode cL_build 28 = .ok (.invokestatic 15, 3) := by decide +kernel
theorem dL_build_31 : decode cL_build 31 = .ok (.iadd, 1) := by decide +kernel
theorem dL_build_32 : decode cL_build 32 = .ok (.iastore, 1) := by decide +kernel
theorem dL_build_33 : decode cL_build 33 = .ok (.dup, 1) := by decide +kernel
theorem dL_build_34 : decode cL_build 34 = .ok (.iconst 2, 1) := by decide +kernel
theorem dL_build_35 : decode cL_build 35 = .ok (.iconst 0, 1) := by decide +kernel
theorem dL_build_36 : decode cL_build 36 = .ok (.iastore, 1) := by decide +kernel
theorem dL_build_37 : decode cL_build 37 = .ok (.astore 7, 2) := by decide +kernel
theorem dL_build_39 : decode cL_build 39 = .ok (.iconst 0, 1) := by decide +kernel
theorem dL_build_40 : decode cL_build 40 = .ok (.istore 8, 2) := by decide +kernel
theorem dL_build_42 : decode cL_build 42 = .ok (.iload 8, 2) := by decide +kernel
theorem dL_build_44 : decode cL_build 44 = .ok (.aload 7, 2) := by decide +kernel
theorem dL_build_46 : decode cL_build 46 = .ok (.iconst 0, 1) := by decide +kernel
theorem dL_build_47 : decode cL_build 47 = .ok (.iaload, 1) := by decide +kernel
theorem dL_build_48 : decode cL_build 48 = .ok (.if_icmp .ge 139, 3) := by decide +kernel
theorem dL_build_51 : decode cL_build 51 = .ok (.aload_n 1, 1) := by decide +kernel
theorem dL_build_52 : decode cL_build 52 = .ok (.iload_n 2, 1) := by decide +kernel
theorem dL_build_53 : decode cL_build 53 = .ok (.iconst 1, 1) := by decide +kernel
theorem dL_build_54 : decode cL_build 54 = .ok (.iadd, 1) := by decide +kernel
theorem dL_build_55 : decode cL_build 55 = .ok (.invokestatic 9, 3) := by decide +kernel
theorem dL_build_58 : decode cL_build 58 = .ok (.bipush 6, 2) := by decide +kernel
theorem dL_build_60 : decode cL_build 60 = .ok (.iload 8, 2) := by decide +kernel
theorem dL_build_62 : decode cL_build 62 = .ok (.imul, 1) := by decide +kernel
theorem dL_build_63 : decode cL_build 63 = .ok (.ishr, 1) := by decide +kernel
theorem dL_build_64 : decode cL_build 64 = .ok (.istore 9, 2) := by decide +kernel
theorem dL_build_66 : decode cL_build 66 = .ok (.aload 4, 2) := by decide +kernel
theorem dL_build_68 : decode cL_build 68 = .ok (.iconst 3, 1) := by decide +kernel
theorem dL_build_69 : decode cL_build 69 = .ok (.iload 8, 2) := by decide +kernel
theorem dL_build_71 : decode cL_build 71 = .ok (.imul, 1) := by decide +kernel
theorem dL_build_72 : decode cL_build 72 = .ok (.iload 9, 2) := by decide +kernel
theorem dL_build_74 : decode cL_build 74 = .ok (.iconst 3, 1) := by decide +kernel
theorem dL_build_75 : decode cL_build 75 = .ok (.invokestatic 15, 3) := by decide +kernel
theorem dL_build_78 : decode cL_build 78 = .ok (.ifCond .le 8, 3) := by decide +kernel
theorem dL_build_81 : decode cL_build 81 = .ok (.bipush 15, 2) := by decide +kernel
theorem dL_build_83 : decode cL_build 83 = .ok (.goto 14, 3) := by decide +kernel
theorem dL_build_86 : decode cL_build 86 = .ok (.iconst 1, 1) := by decide +kernel
theorem dL_build_87 : decode cL_build 87 = .ok (.iload 9, 2) := by decide +kernel
theorem dL_build_89 : decode cL_build 89 = .ok (.iconst 1, 1) := by decide +kernel
theorem dL_build_90 : decode cL_build 90 = .ok (.ishr, 1) := by decide +kernel
theorem dL_build_91 : decode cL_build 91 = .ok (.bipush 15, 2) := by decide +kernel
theorem dL_build_93 : decode cL_build 93 = .ok (.invokestatic 15, 3) := by decide +kernel
theorem dL_build_96 : decode cL_build 96 = .ok (.iadd, 1) := by decide +kernel
theorem dL_build_97 : decode cL_build 97 = .ok (.iastore, 1) := by decide +kernel
theorem dL_build_98 : decode cL_build 98 = .ok (.aload 4, 2) := by decide +kernel
theorem dL_build_100 : decode cL_build 100 = .ok (.iconst 3, 1) := by decide +kernel
theorem dL_build_101 : decode cL_build 101 = .ok (.iload 8, 2) := by decide +kernel
theorem dL_build_103 : decode cL_build 103 = .ok (.imul, 1) := by decide +kernel
theorem dL_build_104 : decode cL_build 104 = .ok (.iconst 1, 1) := by decide +kernel
theorem dL_build_105 : decode cL_build 105 = .ok (.iadd, 1) := by decide +kernel
theorem dL_build_106 : decode cL_build 106 = .ok (.iload 9, 2) := by decide +kernel
theorem dL_build_108 : decode cL_build 108 = .ok (.iconst 2, 1) := by decide +kernel
theorem dL_build_109 : decode cL_build 109 = .ok (.ishr, 1) := by decide +kernel
theorem dL_build_110 : decode cL_build 110 = .ok (.iconst 2, 1) := by decide +kernel
theorem dL_build_111 : decode cL_build 111 = .ok (.invokestatic 15, 3) := by decide +kernel
theorem dL_build_114 : decode cL_build 114 = .ok (.iload 9, 2) := by decide +kernel
theorem dL_build_116 : decode cL_build 116 = .ok (.iconst 3, 1) := by decide +kernel
theorem dL_build_117 : decode cL_build 117 = .ok (.ishr, 1) := by decide +kernel
theorem dL_build_118 : decode cL_build 118 = .ok (.bipush 12, 2) := by decide +kernel
theorem dL_build_120 : decode cL_build 120 = .ok (.invokestatic 15, 3) := by decide +kernel
theorem dL_build_123 : decode cL_build 123 = .ok (.imul, 1) := by decide +kernel
theorem dL_build_124 : decode cL_build 124 = .ok (.iastore, 1) := by decide +kernel
theorem dL_build_125 : decode cL_build 125 = .ok (.aload 4, 2) := by decide +kernel
theorem dL_build_127 : decode cL_build 127 = .ok (.iconst 3, 1) := by decide +kernel
theorem dL_build_128 : decode cL_build 128 = .ok (.iload 8, 2) := by decide +kernel
theorem dL_build_130 : decode cL_build 130 = .ok (.imul, 1) := by decide +kernel
theorem dL_build_131 : decode cL_build 131 = .ok (.iconst 2, 1) := by decide +kernel
theorem dL_build_132 : decode cL_build 132 = .ok (.iadd, 1) := by decide +kernel
theorem dL_build_133 : decode cL_build 133 = .ok (.iconst 1, 1) := by decide +kernel
theorem dL_build_134 : decode cL_build 134 = .ok (.iload 9, 2) := by decide +kernel
theorem dL_build_136 : decode cL_build 136 = .ok (.iconst 5, 1) := by decide +kernel
theorem dL_build_137 : decode cL_build 137 = .ok (.ishr, 1) := by decide +kernel
theorem dL_build_138 : decode cL_build 138 = .ok (.bipush 40, 2) := by decide +kernel
theorem dL_build_140 : decode cL_build 140 = .ok (.invokestatic 15, 3) := by decide +kernel
theorem dL_build_143 : decode cL_build 143 = .ok (.iadd, 1) := by decide +kernel
theorem dL_build_144 : decode cL_build 144 = .ok (.iastore, 1) := by decide +kernel
theorem dL_build_145 : decode cL_build 145 = .ok (.aload_n 0, 1) := by decide +kernel
theorem dL_build_146 : decode cL_build 146 = .ok (.aload 4, 2) := by decide +kernel
theorem dL_build_148 : decode cL_build 148 = .ok (.iconst 3, 1) := by decide +kernel
theorem dL_build_149 : decode cL_build 149 = .ok (.iload 8, 2) := by decide +kernel
theorem dL_build_151 : decode cL_build 151 = .ok (.imul, 1) := by decide +kernel
theorem dL_build_152 : decode cL_build 152 = .ok (.iaload, 1) := by decide +kernel
theorem dL_build_153 : decode cL_build 153 = .ok (.aload 4, 2) := by decide +kernel
theorem dL_build_155 : decode cL_build 155 = .ok (.iconst 3, 1) := by decide +kernel
theorem dL_build_156 : decode cL_build 156 = .ok (.iload 8, 2) := by decide +kernel
theorem dL_build_158 : decode cL_build 158 = .ok (.imul, 1) := by decide +kernel
theorem dL_build_159 : decode cL_build 159 = .ok (.iconst 1, 1) := by decide +kernel
theorem dL_build_160 : decode cL_build 160 = .ok (.iadd, 1) := by decide +kernel
theorem dL_build_161 : decode cL_build 161 = .ok (.iaload, 1) := by decide +kernel
theorem dL_build_162 : decode cL_build 162 = .ok (.aload 4, 2) := by decide +kernel
theorem dL_build_164 : decode cL_build 164 = .ok (.iconst 3, 1) := by decide +kernel
theorem dL_build_165 : decode cL_build 165 = .ok (.iload 8, 2) := by decide +kernel
theorem dL_build_167 : decode cL_build 167 = .ok (.imul, 1) := by decide +kernel
theorem dL_build_168 : decode cL_build 168 = .ok (.iconst 2, 1) := by decide +kernel
theorem dL_build_169 : decode cL_build 169 = .ok (.iadd, 1) := by decide +kernel
theorem dL_build_170 : decode cL_build 170 = .ok (.iaload, 1) := by decide +kernel
theorem dL_build_171 : decode cL_build 171 = .ok (.invokevirtual 19, 3) := by decide +kernel
theorem dL_build_174 : decode cL_build 174 = .ok (.iload 8, 2) := by decide +kernel
theorem dL_build_176 : decode cL_build 176 = .ok (.if_icmp .eq 5, 3) := by decide +kernel
theorem dL_build_179 : decode cL_build 179 = .ok (.aconst_null, 1) := by decide +kernel
theorem dL_build_180 : decode cL_build 180 = .ok (.areturn, 1) := by decide +kernel
theorem dL_build_181 : decode cL_build 181 = .ok (.iinc 8 1, 3) := by decide +kernel
theorem dL_build_184 : decode cL_build 184 = .ok (.goto (-142), 3) := by decide +kernel
theorem dL_build_187 : decode cL_build 187 = .ok (.iconst 0, 1) := by decide +kernel
theorem dL_build_188 : decode cL_build 188 = .ok (.istore 8, 2) := by decide +kernel
theorem dL_build_190 : decode cL_build 190 = .ok (.iload 8, 2) := by decide +kernel
theorem dL_build_192 : decode cL_build 192 = .ok (.aload 7, 2) := by decide +kernel
theorem dL_build_194 : decode cL_build 194 = .ok (.iconst 1, 1) := by decide +kernel
theorem dL_build_195 : decode cL_build 195 = .ok (.iaload, 1) := by decide +kernel
theorem dL_build_196 : decode cL_build 196 = .ok (.if_icmp .ge 141, 3) := by decide +kernel
theorem dL_build_199 : decode cL_build 199 = .ok (.aload_n 1, 1) := by decide +kernel
theorem dL_build_200 : decode cL_build 200 = .ok (.iload_n 2, 1) := by decide +kernel
theorem dL_build_201 : decode cL_build 201 = .ok (.iconst 2, 1) := by decide +kernel
theorem dL_build_202 : decode cL_build 202 = .ok (.iadd, 1) := by decide +kernel
theorem dL_build_203 : decode cL_build 203 = .ok (.invokestatic 9, 3) := by decide +kernel
theorem dL_build_206 : decode cL_build 206 = .ok (.bipush 6, 2) := by decide +kernel
theorem dL_build_208 : decode cL_build 208 = .ok (.iload 8, 2) := by decide +kernel
theorem dL_build_210 : decode cL_build 210 = .ok (.imul, 1) := by decide +kernel
theorem dL_build_211 : decode cL_build 211 = .ok (.ishr, 1) := by decide +kernel
theorem dL_build_212 : decode cL_build 212 = .ok (.istore 9, 2) := by decide +kernel
theorem dL_build_214 : decode cL_build 214 = .ok (.aload 5, 2) := by decide +kernel
theorem dL_build_216 : decode cL_build 216 = .ok (.iconst 4, 1) := by decide +kernel
theorem dL_build_217 : decode cL_build 217 = .ok (.iload 8, 2) := by decide +kernel
theorem dL_build_219 : decode cL_build 219 = .ok (.imul, 1) := by decide +kernel
theorem dL_build_220 : decode cL_build 220 = .ok (.iload 9, 2) := by decide +kernel
theorem dL_build_222 : decode cL_build 222 = .ok (.iconst 4, 1) := by decide +kernel
theorem dL_build_223 : decode cL_build 223 = .ok (.invokestatic 15, 3) := by decide +kernel
theorem dL_build_226 : decode cL_build 226 = .ok (.iastore, 1) := by decide +kernel
theorem dL_build_227 : decode cL_build 227 = .ok (.aload 5, 2) := by decide +kernel
theorem dL_build_229 : decode cL_build 229 = .ok (.iconst 4, 1) := by decide +kernel
theorem dL_build_230 : decode cL_build 230 = .ok (.iload 8, 2) := by decide +kernel
theorem dL_build_232 : decode cL_build 232 = .ok (.imul, 1) := by decide +kernel
theorem dL_build_233 : decode cL_build 233 = .ok (.iconst 1, 1) := by decide +kernel
theorem dL_build_234 : decode cL_build 234 = .ok (.iadd, 1) := by decide +kernel
theorem dL_build_235 : decode cL_build 235 = .ok (.iconst 1, 1) := by decide +kernel
theorem dL_build_236 : decode cL_build 236 = .ok (.iload 9, 2) := by decide +kernel
theorem dL_build_238 : decode cL_build 238 = .ok (.iconst 2, 1) := by decide +kernel
theorem dL_build_239 : decode cL_build 239 = .ok (.ishr, 1) := by decide +kernel
theorem dL_build_240 : decode cL_build 240 = .ok (.bipush 9, 2) := by decide +kernel
theorem dL_build_242 : decode cL_build 242 = .ok (.invokestatic 15, 3) := by decide +kernel
theorem dL_build_245 : decode cL_build 245 = .ok (.iadd, 1) := by decide +kernel
theorem dL_build_246 : decode cL_build 246 = .ok (.iastore, 1) := by decide +kernel
theorem dL_build_247 : decode cL_build 247 = .ok (.aload 5, 2) := by decide +kernel
theorem dL_build_249 : decode cL_build 249 = .ok (.iconst 4, 1) := by decide +kernel
theorem dL_build_250 : decode cL_build 250 = .ok (.iload 8, 2) := by decide +kernel
theorem dL_build_252 : decode cL_build 252 = .ok (.imul, 1) := by decide +kernel
theorem dL_build_253 : decode cL_build 253 = .ok (.iconst 2, 1) := by decide +kernel
theorem dL_build_254 : decode cL_build 254 = .ok (.iadd, 1) := by decide +kernel
theorem dL_build_255 : decode cL_build 255 = .ok (.iload 9, 2) := by decide +kernel
theorem dL_build_257 : decode cL_build 257 = .ok (.iconst 3, 1) := by decide +kernel
theorem dL_build_258 : decode cL_build 258 = .ok (.ishr, 1) := by decide +kernel
theorem dL_build_259 : decode cL_build 259 = .ok (.bipush 30, 2) := by decide +kernel
theorem dL_build_261 : decode cL_build 261 = .ok (.invokestatic 15, 3) := by decide +kernel
theorem dL_build_264 : decode cL_build 264 = .ok (.iastore, 1) := by decide +kernel
theorem dL_build_265 : decode cL_build 265 = .ok (.aload 5, 2) := by decide +kernel
theorem dL_build_267 : decode cL_build 267 = .ok (.iconst 4, 1) := by decide +kernel
theorem dL_build_268 : decode cL_build 268 = .ok (.iload 8, 2) := by decide +kernel
theorem dL_build_270 : decode cL_build 270 = .ok (.imul, 1) := by decide +kernel
theorem dL_build_271 : decode cL_build 271 = .ok (.iconst 3, 1) := by decide +kernel
theorem dL_build_272 : decode cL_build 272 = .ok (.iadd, 1) := by decide +kernel
theorem dL_build_273 : decode cL_build 273 = .ok (.iconst 1, 1) := by decide +kernel
theorem dL_build_274 : decode cL_build 274 = .ok (.iload 9, 2) := by decide +kernel
theorem dL_build_276 : decode cL_build 276 = .ok (.iconst 4, 1) := by decide +kernel
theorem dL_build_277 : decode cL_build 277 = .ok (.ishr, 1) := by decide +kernel
theorem dL_build_278 : decode cL_build 278 = .ok (.sipush 900, 3) := by decide +kernel
theorem dL_build_281 : decode cL_build 281 = .ok (.invokestatic 15, 3) := by decide +kernel
theorem dL_build_284 : decode cL_build 284 = .ok (.iadd, 1) := by decide +kernel
theorem dL_build_285 : decode cL_build 285 = .ok (.iastore, 1) := by decide +kernel
theorem dL_build_286 : decode cL_build 286 = .ok (.aload_n 0, 1) := by decide +kernel
theorem dL_build_287 : decode cL_build 287 = .ok (.aload 5, 2) := by decide +kernel
theorem dL_build_289 : decode cL_build 289 = .ok (.iconst 4, 1) := by decide +kernel
theorem dL_build_290 : decode cL_build 290 = .ok (.iload 8, 2) := by decide +kernel
theorem dL_build_292 : decode cL_build 292 = .ok (.imul, 1) := by decide +kernel
theorem dL_build_293 : decode cL_build 293 = .ok (.iaload, 1) := by decide +kernel
theorem dL_build_294 : decode cL_build 294 = .ok (.aload 5, 2) := by decide +kernel
theorem dL_build_296 : decode cL_build 296 = .ok (.iconst 4, 1) := by decide +kernel
theorem dL_build_297 : decode cL_build 297 = .ok (.iload 8, 2) := by decide +kernel
theorem dL_build_299 : decode cL_build 299 = .ok (.imul, 1) := by decide +kernel
theorem dL_build_300 : decode cL_build 300 = .ok (.iconst 1, 1) := by decide +kernel
theorem dL_build_301 : decode cL_build 301 = .ok (.iadd, 1) := by decide +kernel
theorem dL_build_302 : decode cL_build 302 = .ok (.iaload, 1) := by decide +kernel
theorem dL_build_303 : decode cL_build 303 = .ok (.aload 5, 2) := by decide +kernel
theorem dL_build_305 : decode cL_build 305 = .ok (.iconst 4, 1) := by decide +kernel
theorem dL_build_306 : decode cL_build 306 = .ok (.iload 8, 2) := by decide +kernel
theorem dL_build_308 : decode cL_build 308 = .ok (.imul, 1) := by decide +kernel
theorem dL_build_309 : decode cL_build 309 = .ok (.iconst 2, 1) := by decide +kernel
theorem dL_build_310 : decode cL_build 310 = .ok (.iadd, 1) := by decide +kernel
theorem dL_build_311 : decode cL_build 311 = .ok (.iaload, 1) := by decide +kernel
theorem dL_build_312 : decode cL_build 312 = .ok (.aload 5, 2) := by decide +kernel
theorem dL_build_314 : decode cL_build 314 = .ok (.iconst 4, 1) := by decide +kernel
theorem dL_build_315 : decode cL_build 315 = .ok (.iload 8, 2) := by decide +kernel
theorem dL_build_317 : decode cL_build 317 = .ok (.imul, 1) := by decide +kernel
theorem dL_build_318 : decode cL_build 318 = .ok (.iconst 3, 1) := by decide +kernel
theorem dL_build_319 : decode cL_build 319 = .ok (.iadd, 1) := by decide +kernel
theorem dL_build_320 : decode cL_build 320 = .ok (.iaload, 1) := by decide +kernel
theorem dL_build_321 : decode cL_build 321 = .ok (.invokevirtual 25, 3) := by decide +kernel
theorem dL_build_324 : decode cL_build 324 = .ok (.iload 8, 2) := by decide +kernel
theorem dL_build_326 : decode cL_build 326 = .ok (.if_icmp .eq 5, 3) := by decide +kernel
theorem dL_build_329 : decode cL_build 329 = .ok (.aconst_null, 1) := by decide +kernel
theorem dL_build_330 : decode cL_build 330 = .ok (.areturn, 1) := by decide +kernel
theorem dL_build_331 : decode cL_build 331 = .ok (.iinc 8 1, 3) := by decide +kernel
theorem dL_build_334 : decode cL_build 334 = .ok (.goto (-144), 3) := by decide +kernel
theorem dL_build_337 : decode cL_build 337 = .ok (.aload_n 1, 1) := by decide +kernel
theorem dL_build_338 : decode cL_build 338 = .ok (.iload_n 2, 1) := by decide +kernel
theorem dL_build_339 : decode cL_build 339 = .ok (.invokestatic 9, 3) := by decide +kernel
theorem dL_build_342 : decode cL_build 342 = .ok (.bipush 6, 2) := by decide +kernel
theorem dL_build_344 : decode cL_build 344 = .ok (.ishr, 1) := by decide +kernel
theorem dL_build_345 : decode cL_build 345 = .ok (.iload_n 3, 1) := by decide +kernel
theorem dL_build_346 : decode cL_build 346 = .ok (.iconst 1, 1) := by decide +kernel
theorem dL_build_347 : decode cL_build 347 = .ok (.iadd, 1) := by decide +kernel
theorem dL_build_348 : decode cL_build 348 = .ok (.invokestatic 15, 3) := by decide +kernel
theorem dL_build_351 : decode cL_build 351 = .ok (.istore 8, 2) := by decide +kernel
theorem dL_build_353 : decode cL_build 353 = .ok (.iconst 0, 1) := by decide +kernel
theorem dL_build_354 : decode cL_build 354 = .ok (.istore 9, 2) := by decide +kernel
theorem dL_build_356 : decode cL_build 356 = .ok (.iload 9, 2) := by decide +kernel
theorem dL_build_358 : decode cL_build 358 = .ok (.iload 8, 2) := by decide +kernel
theorem dL_build_360 : decode cL_build 360 = .ok (.if_icmp .ge 217, 3) := by decide +kernel
theorem dL_build_363 : decode cL_build 363 = .ok (.aload_n 1, 1) := by decide +kernel
theorem dL_build_364 : decode cL_build 364 = .ok (.iload_n 2, 1) := by decide +kernel
theorem dL_build_365 : decode cL_build 365 = .ok (.iconst 3, 1) := by decide +kernel
theorem dL_build_366 : decode cL_build 366 = .ok (.iadd, 1) := by decide +kernel
theorem dL_build_367 : decode cL_build 367 = .ok (.iload 9, 2) := by decide +kernel
theorem dL_build_369 : decode cL_build 369 = .ok (.iconst 5, 1) := by decide +kernel
theorem dL_build_370 : decode cL_build 370 = .ok (.irem, 1) := by decide +kernel
theorem dL_build_371 : decode cL_build 371 = .ok (.iadd, 1) := by decide +kernel
theorem dL_build_372 : decode cL_build 372 = .ok (.invokestatic 9, 3) := by decide +kernel
theorem dL_build_375 : decode cL_build 375 = .ok (.iload 9, 2) := by decide +kernel
theorem dL_build_377 : decode cL_build 377 = .ok (.iconst 5, 1) := by decide +kernel
theorem dL_build_378 : decode cL_build 378 = .ok (.idiv, 1) := by decide +kernel
theorem dL_build_379 : decode cL_build 379 = .ok (.bipush 9, 2) := by decide +kernel
theorem dL_build_381 : decode cL_build 381 = .ok (.imul, 1) := by decide +kernel
theorem dL_build_382 : decode cL_build 382 = .ok (.ishr, 1) := by decide +kernel
theorem dL_build_383 : decode cL_build 383 = .ok (.istore 10, 2) := by decide +kernel
theorem dL_build_385 : decode cL_build 385 = .ok (.iload 10, 2) := by decide +kernel
theorem dL_build_387 : decode cL_build 387 = .ok (.aload 7, 2) := by decide +kernel
theorem dL_build_389 : decode cL_build 389 = .ok (.iconst 1, 1) := by decide +kernel