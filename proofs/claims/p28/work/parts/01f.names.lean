theorem dL_challenges_6 : decode cL_challenges 6 = .ok (.iload_n 2, 1) := by decide +kernel
theorem dL_challenges_7 : decode cL_challenges 7 = .ok (.aload 4, 2) := by decide +kernel
theorem dL_challenges_9 : decode cL_challenges 9 = .ok (.iconst 1, 1) := by decide +kernel
theorem dL_challenges_10 : decode cL_challenges 10 = .ok (.iaload, 1) := by decide +kernel
theorem dL_challenges_11 : decode cL_challenges 11 = .ok (.bipush 8, 2) := by decide +kernel
theorem dL_challenges_13 : decode cL_challenges 13 = .ok (.if_icmp .ge 10, 3) := by decide +kernel
theorem dL_challenges_16 : decode cL_challenges 16 = .ok (.aload 4, 2) := by decide +kernel
theorem dL_challenges_18 : decode cL_challenges 18 = .ok (.iconst 1, 1) := by decide +kernel
theorem dL_challenges_19 : decode cL_challenges 19 = .ok (.iaload, 1) := by decide +kernel
theorem dL_challenges_20 : decode cL_challenges 20 = .ok (.goto 5, 3) := by decide +kernel
theorem dL_challenges_23 : decode cL_challenges 23 = .ok (.bipush 8, 2) := by decide +kernel
theorem dL_challenges_25 : decode cL_challenges 25 = .ok (.irem, 1) := by decide +kernel
theorem dL_challenges_26 : decode cL_challenges 26 = .ok (.isub, 1) := by decide +kernel
theorem dL_challenges_27 : decode cL_challenges 27 = .ok (.istore 5, 2) := by decide +kernel
theorem dL_challenges_29 : decode cL_challenges 29 = .ok (.iload_n 1, 1) := by decide +kernel
theorem dL_challenges_30 : decode cL_challenges 30 = .ok (.bipush 6, 2) := by decide +kernel
theorem dL_challenges_32 : decode cL_challenges 32 = .ok (.irem, 1) := by decide +kernel
theorem dL_challenges_33 : decode cL_challenges 33 = .ok (.istore 6, 2) := by decide +kernel
theorem dL_challenges_35 : decode cL_challenges 35 = .ok (.aload_n 0, 1) := by decide +kernel
theorem dL_challenges_36 : decode cL_challenges 36 = .ok (.iload 6, 2) := by decide +kernel
theorem dL_challenges_38 : decode cL_challenges 38 = .ok (.invokevirtual 53, 3) := by decide +kernel
theorem dL_challenges_41 : decode cL_challenges 41 = .ok (.istore 7, 2) := by decide +kernel
theorem dL_challenges_43 : decode cL_challenges 43 = .ok (.aload_n 0, 1) := by decide +kernel
theorem dL_challenges_44 : decode cL_challenges 44 = .ok (.iload 5, 2) := by decide +kernel
theorem dL_challenges_46 : decode cL_challenges 46 = .ok (.invokevirtual 59, 3) := by decide +kernel
theorem dL_challenges_49 : decode cL_challenges 49 = .ok (.ifCond .ne 13, 3) := by decide +kernel
theorem dL_challenges_52 : decode cL_challenges 52 = .ok (.iload 7, 2) := by decide +kernel
theorem dL_challenges_54 : decode cL_challenges 54 = .ok (.iconst 4, 1) := by decide +kernel
theorem dL_challenges_55 : decode cL_challenges 55 = .ok (.if_icmp .lt 7, 3) := by decide +kernel
theorem dL_challenges_58 : decode cL_challenges 58 = .ok (.iconst 1, 1) := by decide +kernel
theorem dL_challenges_59 : decode cL_challenges 59 = .ok (.goto 4, 3) := by decide +kernel
theorem dL_challenges_62 : decode cL_challenges 62 = .ok (.iconst 0, 1) := by decide +kernel
theorem dL_challenges_63 : decode cL_challenges 63 = .ok (.istore 8, 2) := by decide +kernel
theorem dL_challenges_65 : decode cL_challenges 65 = .ok (.aload_n 3, 1) := by decide +kernel
theorem dL_challenges_66 : decode cL_challenges 66 = .ok (.iload 5, 2) := by decide +kernel
theorem dL_challenges_68 : decode cL_challenges 68 = .ok (.iaload, 1) := by decide +kernel
theorem dL_challenges_69 : decode cL_challenges 69 = .ok (.bipush 15, 2) := by decide +kernel
theorem dL_challenges_71 : decode cL_challenges 71 = .ok (.iand, 1) := by decide +kernel
theorem dL_challenges_72 : decode cL_challenges 72 = .ok (.istore 9, 2) := by decide +kernel
theorem dL_challenges_74 : decode cL_challenges 74 = .ok (.iconst 0, 1) := by decide +kernel
theorem dL_challenges_75 : decode cL_challenges 75 = .ok (.istore 10, 2) := by decide +kernel
theorem dL_challenges_77 : decode cL_challenges 77 = .ok (.iconst 0, 1) := by decide +kernel
theorem dL_challenges_78 : decode cL_challenges 78 = .ok (.istore 11, 2) := by decide +kernel
theorem dL_challenges_80 : decode cL_challenges 80 = .ok (.iload 11, 2) := by decide +kernel
theorem dL_challenges_82 : decode cL_challenges 82 = .ok (.bipush 12, 2) := by decide +kernel
theorem dL_challenges_84 : decode cL_challenges 84 = .ok (.if_icmp .ge 29, 3) := by decide +kernel
theorem dL_challenges_87 : decode cL_challenges 87 = .ok (.iload 10, 2) := by decide +kernel
theorem dL_challenges_89 : decode cL_challenges 89 = .ok (.iload 11, 2) := by decide +kernel
theorem dL_challenges_91 : decode cL_challenges 91 = .ok (.iload 9, 2) := by decide +kernel
theorem dL_challenges_93 : decode cL_challenges 93 = .ok (.invokestatic 89, 3) := by decide +kernel
theorem dL_challenges_96 : decode cL_challenges 96 = .ok (.ifCond .eq 7, 3) := by decide +kernel
theorem dL_challenges_99 : decode cL_challenges 99 = .ok (.iconst 1, 1) := by decide +kernel
theorem dL_challenges_100 : decode cL_challenges 100 = .ok (.goto 4, 3) := by decide +kernel
theorem dL_challenges_103 : decode cL_challenges 103 = .ok (.iconst 0, 1) := by decide +kernel
theorem dL_challenges_104 : decode cL_challenges 104 = .ok (.iadd, 1) := by decide +kernel
theorem dL_challenges_105 : decode cL_challenges 105 = .ok (.istore 10, 2) := by decide +kernel
theorem dL_challenges_107 : decode cL_challenges 107 = .ok (.iinc 11 1, 3) := by decide +kernel
theorem dL_challenges_110 : decode cL_challenges 110 = .ok (.goto (-30), 3) := by decide +kernel
theorem dL_challenges_113 : decode cL_challenges 113 = .ok (.aload_n 0, 1) := by decide +kernel
theorem dL_challenges_114 : decode cL_challenges 114 = .ok (.iconst 2, 1) := by decide +kernel
theorem dL_challenges_115 : decode cL_challenges 115 = .ok (.iload 6, 2) := by decide +kernel
theorem dL_challenges_117 : decode cL_challenges 117 = .ok (.iload 5, 2) := by decide +kernel
theorem dL_challenges_119 : decode cL_challenges 119 = .ok (.iconst 0, 1) := by decide +kernel
theorem dL_challenges_120 : decode cL_challenges 120 = .ok (.invokestatic 83, 3) := by decide +kernel
theorem dL_challenges_123 : decode cL_challenges 123 = .ok (.istore 11, 2) := by decide +kernel
theorem dL_challenges_125 : decode cL_challenges 125 = .ok (.iload 8, 2) := by decide +kernel
theorem dL_challenges_127 : decode cL_challenges 127 = .ok (.ifCond .eq 31, 3) := by decide +kernel
theorem dL_challenges_130 : decode cL_challenges 130 = .ok (.aload_n 3, 1) := by decide +kernel
theorem dL_challenges_131 : decode cL_challenges 131 = .ok (.iload 5, 2) := by decide +kernel
theorem dL_challenges_133 : decode cL_challenges 133 = .ok (.aload_n 3, 1) := by decide +kernel
theorem dL_challenges_134 : decode cL_challenges 134 = .ok (.iload 5, 2) := by decide +kernel
theorem dL_challenges_136 : decode cL_challenges 136 = .ok (.iaload, 1) := by decide +kernel
theorem dL_challenges_137 : decode cL_challenges 137 = .ok (.sipush 16383, 3) := by decide +kernel
theorem dL_challenges_140 : decode cL_challenges 140 = .ok (.iand, 1) := by decide +kernel
theorem dL_challenges_141 : decode cL_challenges 141 = .ok (.sipush (-14337), 3) := by decide +kernel
theorem dL_challenges_144 : decode cL_challenges 144 = .ok (.iand, 1) := by decide +kernel
theorem dL_challenges_145 : decode cL_challenges 145 = .ok (.sipush 2048, 3) := by decide +kernel
theorem dL_challenges_148 : decode cL_challenges 148 = .ok (.ior, 1) := by decide +kernel
theorem dL_challenges_149 : decode cL_challenges 149 = .ok (.aload 4, 2) := by decide +kernel
theorem dL_challenges_151 : decode cL_challenges 151 = .ok (.iconst 0, 1) := by decide +kernel
theorem dL_challenges_152 : decode cL_challenges 152 = .ok (.iaload, 1) := by decide +kernel
theorem dL_challenges_153 : decode cL_challenges 153 = .ok (.bipush 14, 2) := by decide +kernel
theorem dL_challenges_155 : decode cL_challenges 155 = .ok (.ishl, 1) := by decide +kernel
theorem dL_challenges_156 : decode cL_challenges 156 = .ok (.ior, 1) := by decide +kernel
theorem dL_challenges_157 : decode cL_challenges 157 = .ok (.iastore, 1) := by decide +kernel
theorem dL_challenges_158 : decode cL_challenges 158 = .ok (.iload 11, 2) := by decide +kernel
theorem dL_challenges_160 : decode cL_challenges 160 = .ok (.iload 8, 2) := by decide +kernel
theorem dL_challenges_162 : decode cL_challenges 162 = .ok (.ifCond .eq 8, 3) := by decide +kernel
theorem dL_challenges_165 : decode cL_challenges 165 = .ok (.iload 10, 2) := by decide +kernel
theorem dL_challenges_167 : decode cL_challenges 167 = .ok (.goto 5, 3) := by decide +kernel
theorem dL_challenges_170 : decode cL_challenges 170 = .ok (.bipush (-108), 2) := by decide +kernel
theorem dL_challenges_172 : decode cL_challenges 172 = .ok (.if_icmp .ne 54, 3) := by decide +kernel
theorem dL_challenges_175 : decode cL_challenges 175 = .ok (.aload_n 0, 1) := by decide +kernel
theorem dL_challenges_176 : decode cL_challenges 176 = .ok (.iload 6, 2) := by decide +kernel
theorem dL_challenges_178 : decode cL_challenges 178 = .ok (.invokevirtual 53, 3) := by decide +kernel
theorem dL_challenges_181 : decode cL_challenges 181 = .ok (.iload 7, 2) := by decide +kernel
theorem dL_challenges_183 : decode cL_challenges 183 = .ok (.iload 8, 2) := by decide +kernel
theorem dL_challenges_185 : decode cL_challenges 185 = .ok (.ifCond .eq 7, 3) := by decide +kernel
theorem dL_challenges_188 : decode cL_challenges 188 = .ok (.iconst 4, 1) := by decide +kernel
theorem dL_challenges_189 : decode cL_challenges 189 = .ok (.goto 4, 3) := by decide +kernel
theorem dL_challenges_192 : decode cL_challenges 192 = .ok (.iconst 0, 1) := by decide +kernel
theorem dL_challenges_193 : decode cL_challenges 193 = .ok (.isub, 1) := by decide +kernel
theorem dL_challenges_194 : decode cL_challenges 194 = .ok (.if_icmp .ne 32, 3) := by decide +kernel
theorem dL_challenges_197 : decode cL_challenges 197 = .ok (.iload 8, 2) := by decide +kernel
theorem dL_challenges_199 : decode cL_challenges 199 = .ok (.ifCond .eq 23, 3) := by decide +kernel
theorem dL_challenges_202 : decode cL_challenges 202 = .ok (.aload_n 0, 1) := by decide +kernel
theorem dL_challenges_203 : decode cL_challenges 203 = .ok (.iload 5, 2) := by decide +kernel
theorem dL_challenges_205 : decode cL_challenges 205 = .ok (.invokevirtual 59, 3) := by decide +kernel
theorem dL_challenges_208 : decode cL_challenges 208 = .ok (.iconst 1, 1) := by decide +kernel
theorem dL_challenges_209 : decode cL_challenges 209 = .ok (.if_icmp .ne 17, 3) := by decide +kernel
theorem dL_challenges_212 : decode cL_challenges 212 = .ok (.aload_n 0, 1) := by decide +kernel
theorem dL_challenges_213 : decode cL_challenges 213 = .ok (.iload 5, 2) := by decide +kernel
theorem dL_challenges_215 : decode cL_challenges 215 = .ok (.invokevirtual 77, 3) := by decide +kernel
theorem dL_challenges_218 : decode cL_challenges 218 = .ok (.iconst (-1), 1) := by decide +kernel
theorem dL_challenges_219 : decode cL_challenges 219 = .ok (.if_icmp .ne 7, 3) := by decide +kernel
theorem dL_challenges_222 : decode cL_challenges 222 = .ok (.iconst 1, 1) := by decide +kernel
theorem dL_challenges_223 : decode cL_challenges 223 = .ok (.goto 4, 3) := by decide +kernel
theorem dL_challenges_226 : decode cL_challenges 226 = .ok (.iconst 0, 1) := by decide +kernel
theorem dL_challenges_227 : decode cL_challenges 227 = .ok (.ireturn, 1) := by decide +kernel
set_option maxRecDepth 20000 in
theorem ggL_samples_L_near : GoodIn wsL_samples wsL_near := goodIn_r _ [4, 5, 6, 3, 7] (by decide +kernel) (by decide +kernel)
set_option maxRecDepth 20000 in
theorem gL_samples_L_near : GoodIn wsL_samples (va_wsS RL 93 yL_near wsL_near) := goodIn_app (goodIn_of _ (by decide +kernel)) ggL_samples_L_near
set_option maxRecDepth 20000 in
theorem ggL_samples_X6_stateOf : GoodIn wsL_samples wsX6_stateOf := goodIn_ca (goodIn_r _ [12, 13, 14, 15, 11, 16, 17, 18, 19, 20, 198, 199, 200, 201, 202, 203, 204, 205, 206, 207, 208, 209, 210, 211, 212, 213, 214, 215] (by decide +kernel) (by decide +kernel)) (goodIn_sub (fun _ h => List.mem_cons_of_mem _ (List.mem_append_left _ (List.mem_append_left _ (List.mem_append_right _ h)))) (by decide +kernel))
set_option maxRecDepth 20000 in
theorem gL_samples_X6_stateOf : GoodIn wsL_samples (wsV RL 59 RX6 yX6_stateOf wsX6_stateOf) := goodIn_app (goodIn_of _ (by decide +kernel)) ggL_samples_X6_stateOf
set_option maxRecDepth 20000 in
theorem ggL_samples_X6_held : GoodIn wsL_samples wsX6_held := goodIn_ca (goodIn_r _ [24, 13, 14, 15, 11, 16, 17, 18, 19, 20, 198, 199, 200, 201, 202, 203, 204, 205, 206, 207, 208, 209, 210, 211, 212, 213, 214, 215] (by decide +kernel) (by decide +kernel)) (goodIn_sub (fun _ h => List.mem_cons_of_mem _ (List.mem_append_left _ (List.mem_append_left _ (List.mem_append_right _ h)))) (by decide +kernel))
set_option maxRecDepth 20000 in
theorem gL_samples_X6_held : GoodIn wsL_samples (wsV RL 56 RX6 yX6_held wsX6_held) := goodIn_app (goodIn_of _ (by decide +kernel)) ggL_samples_X6_held
set_option maxRecDepth 20000 in
theorem ggL_samples_X6_earned : GoodIn wsL_samples wsX6_earned := goodIn_ca (goodIn_r _ [28, 29, 30, 31, 11, 32, 17, 18, 33, 216, 217, 218, 219, 220, 221, 222, 208, 209, 210, 211, 212, 213, 214, 215] (by decide +kernel) (by decide +kernel)) (goodIn_sub (fun _ h => List.mem_cons_of_mem _ (List.mem_append_left _ (List.mem_append_left _ (List.mem_append_right _ h)))) (by decide +kernel))
set_option maxRecDepth 20000 in
theorem gL_samples_X6_earned : GoodIn wsL_samples (wsV RL 44 RX6 yX6_earned wsX6_earned) := goodIn_app (goodIn_of _ (by decide +kernel)) ggL_samples_X6_earned
set_option maxRecDepth 20000 in
theorem ggL_samples_X6_bond : GoodIn wsL_samples wsX6_bond := goodIn_ca (goodIn_r _ [37, 29, 30, 31, 11, 32, 17, 18, 33, 216, 217, 218, 219, 220, 221, 222, 208, 209, 210, 211, 212, 213, 214, 215] (by decide +kernel) (by decide +kernel)) (goodIn_sub (fun _ h => List.mem_cons_of_mem _ (List.mem_append_left _ (List.mem_append_left _ (List.mem_append_right _ h)))) (by decide +kernel))
set_option maxRecDepth 20000 in
theorem gL_samples_X6_bond : GoodIn wsL_samples (wsV RL 40 RX6 yX6_bond wsX6_bond) := goodIn_app (goodIn_of _ (by decide +kernel)) ggL_samples_X6_bond
set_option maxRecDepth 20000 in
theorem ggL_samples_X6_house : GoodIn wsL_samples wsX6_house := goodIn_r _ [41, 42, 208, 209, 210, 211, 212, 213, 214, 215] (by decide +kernel) (by decide +kernel)
set_option maxRecDepth 20000 in
theorem gL_samples_X6_house : GoodIn wsL_samples (wsV RL 36 RX6 yX6_house wsX6_house) := goodIn_app (goodIn_of _ (by decide +kernel)) ggL_samples_X6_house
set_option maxRecDepth 20000 in
theorem ggL_samples_L_asks : GoodIn wsL_samples wsL_asks := goodIn_ca (goodIn_ca (goodIn_ca (goodIn_r _ [45, 46, 47, 48, 49, 50, 11, 51, 52, 53, 54, 19, 55, 56, 57, 20, 29, 30, 31, 32, 17, 18, 33, 58, 59, 60, 61, 62, 63, 64, 65, 66, 67, 68, 69, 70, 71, 72, 73, 74, 75, 76, 77, 78, 79, 80, 81, 82, 83, 84, 85, 86, 87, 88, 89, 90, 91, 92, 93, 94, 95, 96, 97, 98, 99, 100, 101, 102, 103, 104, 105, 106, 107, 108, 109, 110, 111, 112, 113, 114, 115, 116, 117, 118, 119, 120, 121, 122, 123, 124, 125, 126, 127, 128, 13, 14, 15, 16, 129, 130, 131, 132, 133, 134, 135, 136, 137, 138, 139, 140, 141, 142, 143, 144, 145, 146, 147, 148, 149, 150, 151, 152, 153, 154, 155, 156, 157, 158, 159, 160, 161, 162, 163, 164, 165, 166, 167, 168, 169, 170, 171, 172, 173, 174, 175, 176, 177, 42, 178, 179, 180, 181, 182, 183, 184, 185, 186, 187, 188, 189, 190, 191, 192, 193, 194, 195, 196, 197, 216, 217, 218, 219, 220, 221, 222, 208, 209, 210, 211, 212, 213, 214, 215, 198, 199, 200, 201, 202, 203, 204, 205, 206, 207, 223, 224, 225, 226, 227, 228, 229, 230, 231, 232, 233, 234, 235] (by decide +kernel) (by decide +kernel)) (goodIn_sub (fun _ h => List.mem_cons_of_mem _ (List.mem_append_left _ (List.mem_append_right _ h))) (by decide +kernel))) (goodIn_sub (fun _ h => List.mem_cons_of_mem _ (List.mem_append_left _ (List.mem_append_left _ (List.mem_append_right _ h)))) (by decide +kernel))) (goodIn_sub (fun _ h => List.mem_cons_of_mem _ (List.mem_append_right _ h)) (by decide +kernel))
set_option maxRecDepth 20000 in
theorem gL_samples_L_asks : GoodIn wsL_samples (va_wsS RL 83 yL_asks wsL_asks) := goodIn_app (goodIn_of _ (by decide +kernel)) ggL_samples_L_asks
set_option maxRecDepth 20000 in
theorem ggL_samples_L_areNear : GoodIn wsL_samples wsL_areNear := goodIn_r _ [7] (by decide +kernel) (by decide +kernel)
set_option maxRecDepth 20000 in
theorem gL_samples_L_areNear : GoodIn wsL_samples (va_wsS RL 89 yL_areNear wsL_areNear) := goodIn_app (goodIn_of _ (by decide +kernel)) ggL_samples_L_areNear
theorem dL_samples_0 : decode cL_samples 0 = .ok (.aload 4, 2) := by decide +kernel
theorem dL_samples_2 : decode cL_samples 2 = .ok (.iconst 1, 1) := by decide +kernel
theorem dL_samples_3 : decode cL_samples 3 = .ok (.iaload, 1) := by decide +kernel
theorem dL_samples_4 : decode cL_samples 4 = .ok (.iconst 1, 1) := by decide +kernel
theorem dL_samples_5 : decode cL_samples 5 = .ok (.isub, 1) := by decide +kernel
theorem dL_samples_6 : decode cL_samples 6 = .ok (.iload_n 2, 1) := by decide +kernel
theorem dL_samples_7 : decode cL_samples 7 = .ok (.aload 4, 2) := by decide +kernel
theorem dL_samples_9 : decode cL_samples 9 = .ok (.iconst 1, 1) := by decide +kernel
theorem dL_samples_10 : decode cL_samples 10 = .ok (.iaload, 1) := by decide +kernel
theorem dL_samples_11 : decode cL_samples 11 = .ok (.bipush 8, 2) := by decide +kernel
theorem dL_samples_13 : decode cL_samples 13 = .ok (.if_icmp .ge 10, 3) := by decide +kernel
theorem dL_samples_16 : decode cL_samples 16 = .ok (.aload 4, 2) := by decide +kernel
theorem dL_samples_18 : decode cL_samples 18 = .ok (.iconst 1, 1) := by decide +kernel
theorem dL_samples_19 : decode cL_samples 19 = .ok (.iaload, 1) := by decide +kernel
theorem dL_samples_20 : decode cL_samples 20 = .ok (.goto 5, 3) := by decide +kernel
theorem dL_samples_23 : decode cL_samples 23 = .ok (.bipush 8, 2) := by decide +kernel
theorem dL_samples_25 : decode cL_samples 25 = .ok (.irem, 1) := by decide +kernel
theorem dL_samples_26 : decode cL_samples 26 = .ok (.isub, 1) := by decide +kernel
theorem dL_samples_27 : decode cL_samples 27 = .ok (.istore 5, 2) := by decide +kernel
theorem dL_samples_29 : decode cL_samples 29 = .ok (.aload_n 3, 1) := by decide +kernel
theorem dL_samples_30 : decode cL_samples 30 = .ok (.iload 5, 2) := by decide +kernel
theorem dL_samples_32 : decode cL_samples 32 = .ok (.iaload, 1) := by decide +kernel
theorem dL_samples_33 : decode cL_samples 33 = .ok (.bipush 15, 2) := by decide +kernel
theorem dL_samples_35 : decode cL_samples 35 = .ok (.iand, 1) := by decide +kernel
theorem dL_samples_36 : decode cL_samples 36 = .ok (.istore 6, 2) := by decide +kernel
theorem dL_samples_38 : decode cL_samples 38 = .ok (.iload_n 2, 1) := by decide +kernel
theorem dL_samples_39 : decode cL_samples 39 = .ok (.bipush 8, 2) := by decide +kernel
theorem dL_samples_41 : decode cL_samples 41 = .ok (.idiv, 1) := by decide +kernel
theorem dL_samples_42 : decode cL_samples 42 = .ok (.iconst 4, 1) := by decide +kernel
theorem dL_samples_43 : decode cL_samples 43 = .ok (.irem, 1) := by decide +kernel
theorem dL_samples_44 : decode cL_samples 44 = .ok (.ifCond .ne 10, 3) := by decide +kernel
theorem dL_samples_47 : decode cL_samples 47 = .ok (.iload_n 1, 1) := by decide +kernel
theorem dL_samples_48 : decode cL_samples 48 = .ok (.bipush 12, 2) := by decide +kernel
theorem dL_samples_50 : decode cL_samples 50 = .ok (.irem, 1) := by decide +kernel
theorem dL_samples_51 : decode cL_samples 51 = .ok (.goto 9, 3) := by decide +kernel
theorem dL_samples_54 : decode cL_samples 54 = .ok (.iload 6, 2) := by decide +kernel
theorem dL_samples_56 : decode cL_samples 56 = .ok (.iload_n 1, 1) := by decide +kernel
theorem dL_samples_57 : decode cL_samples 57 = .ok (.invokestatic 93, 3) := by decide +kernel
theorem dL_samples_60 : decode cL_samples 60 = .ok (.istore 7, 2) := by decide +kernel
theorem dL_samples_62 : decode cL_samples 62 = .ok (.iload_n 1, 1) := by decide +kernel
theorem dL_samples_63 : decode cL_samples 63 = .ok (.bipush 12, 2) := by decide +kernel
theorem dL_samples_65 : decode cL_samples 65 = .ok (.idiv, 1) := by decide +kernel
theorem dL_samples_66 : decode cL_samples 66 = .ok (.iconst 3, 1) := by decide +kernel
theorem dL_samples_67 : decode cL_samples 67 = .ok (.irem, 1) := by decide +kernel
theorem dL_samples_68 : decode cL_samples 68 = .ok (.ifCond .ne 13, 3) := by decide +kernel
theorem dL_samples_71 : decode cL_samples 71 = .ok (.iload_n 1, 1) := by decide +kernel
theorem dL_samples_72 : decode cL_samples 72 = .ok (.bipush 36, 2) := by decide +kernel
theorem dL_samples_74 : decode cL_samples 74 = .ok (.idiv, 1) := by decide +kernel
theorem dL_samples_75 : decode cL_samples 75 = .ok (.bipush 100, 2) := by decide +kernel
theorem dL_samples_77 : decode cL_samples 77 = .ok (.irem, 1) := by decide +kernel
theorem dL_samples_78 : decode cL_samples 78 = .ok (.goto 23, 3) := by decide +kernel
theorem dL_samples_81 : decode cL_samples 81 = .ok (.aload_n 3, 1) := by decide +kernel
theorem dL_samples_82 : decode cL_samples 82 = .ok (.iload 5, 2) := by decide +kernel
theorem dL_samples_84 : decode cL_samples 84 = .ok (.iaload, 1) := by decide +kernel
theorem dL_samples_85 : decode cL_samples 85 = .ok (.iconst 4, 1) := by decide +kernel
theorem dL_samples_86 : decode cL_samples 86 = .ok (.ishr, 1) := by decide +kernel
theorem dL_samples_87 : decode cL_samples 87 = .ok (.bipush 127, 2) := by decide +kernel
theorem dL_samples_89 : decode cL_samples 89 = .ok (.iand, 1) := by decide +kernel
theorem dL_samples_90 : decode cL_samples 90 = .ok (.iload_n 1, 1) := by decide +kernel
theorem dL_samples_91 : decode cL_samples 91 = .ok (.bipush 36, 2) := by decide +kernel
theorem dL_samples_93 : decode cL_samples 93 = .ok (.idiv, 1) := by decide +kernel
theorem dL_samples_94 : decode cL_samples 94 = .ok (.bipush 14, 2) := by decide +kernel
theorem dL_samples_96 : decode cL_samples 96 = .ok (.irem, 1) := by decide +kernel
theorem dL_samples_97 : decode cL_samples 97 = .ok (.iadd, 1) := by decide +kernel
theorem dL_samples_98 : decode cL_samples 98 = .ok (.bipush 7, 2) := by decide +kernel
theorem dL_samples_100 : decode cL_samples 100 = .ok (.isub, 1) := by decide +kernel
theorem dL_samples_101 : decode cL_samples 101 = .ok (.istore 8, 2) := by decide +kernel
theorem dL_samples_103 : decode cL_samples 103 = .ok (.iload 8, 2) := by decide +kernel
theorem dL_samples_105 : decode cL_samples 105 = .ok (.ifCond .ge 7, 3) := by decide +kernel
theorem dL_samples_108 : decode cL_samples 108 = .ok (.iconst 0, 1) := by decide +kernel
theorem dL_samples_109 : decode cL_samples 109 = .ok (.goto 17, 3) := by decide +kernel
theorem dL_samples_112 : decode cL_samples 112 = .ok (.iload 8, 2) := by decide +kernel
theorem dL_samples_114 : decode cL_samples 114 = .ok (.bipush 99, 2) := by decide +kernel
theorem dL_samples_116 : decode cL_samples 116 = .ok (.if_icmp .le 8, 3) := by decide +kernel
theorem dL_samples_119 : decode cL_samples 119 = .ok (.bipush 99, 2) := by decide +kernel
theorem dL_samples_121 : decode cL_samples 121 = .ok (.goto 5, 3) := by decide +kernel
theorem dL_samples_124 : decode cL_samples 124 = .ok (.iload 8, 2) := by decide +kernel
theorem dL_samples_126 : decode cL_samples 126 = .ok (.istore 8, 2) := by decide +kernel
theorem dL_samples_128 : decode cL_samples 128 = .ok (.aload_n 0, 1) := by decide +kernel
theorem dL_samples_129 : decode cL_samples 129 = .ok (.iload 5, 2) := by decide +kernel
theorem dL_samples_131 : decode cL_samples 131 = .ok (.invokevirtual 59, 3) := by decide +kernel
theorem dL_samples_134 : decode cL_samples 134 = .ok (.istore 9, 2) := by decide +kernel
theorem dL_samples_136 : decode cL_samples 136 = .ok (.aload_n 0, 1) := by decide +kernel
theorem dL_samples_137 : decode cL_samples 137 = .ok (.iload 5, 2) := by decide +kernel
theorem dL_samples_139 : decode cL_samples 139 = .ok (.invokevirtual 56, 3) := by decide +kernel
theorem dL_samples_142 : decode cL_samples 142 = .ok (.istore 10, 2) := by decide +kernel
theorem dL_samples_144 : decode cL_samples 144 = .ok (.aload_n 0, 1) := by decide +kernel
theorem dL_samples_145 : decode cL_samples 145 = .ok (.iload 6, 2) := by decide +kernel
theorem dL_samples_147 : decode cL_samples 147 = .ok (.invokevirtual 44, 3) := by decide +kernel
theorem dL_samples_150 : decode cL_samples 150 = .ok (.istore 11, 2) := by decide +kernel
theorem dL_samples_152 : decode cL_samples 152 = .ok (.aload_n 0, 1) := by decide +kernel
theorem dL_samples_153 : decode cL_samples 153 = .ok (.iload 6, 2) := by decide +kernel
theorem dL_samples_155 : decode cL_samples 155 = .ok (.invokevirtual 40, 3) := by decide +kernel
theorem dL_samples_158 : decode cL_samples 158 = .ok (.istore 12, 2) := by decide +kernel
theorem dL_samples_160 : decode cL_samples 160 = .ok (.aload_n 0, 1) := by decide +kernel
theorem dL_samples_161 : decode cL_samples 161 = .ok (.invokevirtual 36, 3) := by decide +kernel
theorem dL_samples_164 : decode cL_samples 164 = .ok (.istore 13, 2) := by decide +kernel
theorem dL_samples_166 : decode cL_samples 166 = .ok (.aload_n 0, 1) := by decide +kernel
theorem dL_samples_167 : decode cL_samples 167 = .ok (.iconst 3, 1) := by decide +kernel
theorem dL_samples_168 : decode cL_samples 168 = .ok (.iload 7, 2) := by decide +kernel
theorem dL_samples_170 : decode cL_samples 170 = .ok (.iload 5, 2) := by decide +kernel
theorem dL_samples_172 : decode cL_samples 172 = .ok (.iload 8, 2) := by decide +kernel
theorem dL_samples_174 : decode cL_samples 174 = .ok (.invokestatic 83, 3) := by decide +kernel
theorem dL_samples_177 : decode cL_samples 177 = .ok (.istore 14, 2) := by decide +kernel
theorem dL_samples_179 : decode cL_samples 179 = .ok (.iload 14, 2) := by decide +kernel
theorem dL_samples_181 : decode cL_samples 181 = .ok (.ifCond .ge 38, 3) := by decide +kernel
theorem dL_samples_184 : decode cL_samples 184 = .ok (.iload 14, 2) := by decide +kernel
theorem dL_samples_186 : decode cL_samples 186 = .ok (.bipush (-108), 2) := by decide +kernel
theorem dL_samples_188 : decode cL_samples 188 = .ok (.if_icmp .ne 29, 3) := by decide +kernel
theorem dL_samples_191 : decode cL_samples 191 = .ok (.aload_n 0, 1) := by decide +kernel
theorem dL_samples_192 : decode cL_samples 192 = .ok (.iload 5, 2) := by decide +kernel
theorem dL_samples_194 : decode cL_samples 194 = .ok (.invokevirtual 59, 3) := by decide +kernel
theorem dL_samples_197 : decode cL_samples 197 = .ok (.iload 9, 2) := by decide +kernel
theorem dL_samples_199 : decode cL_samples 199 = .ok (.if_icmp .ne 18, 3) := by decide +kernel
theorem dL_samples_202 : decode cL_samples 202 = .ok (.aload_n 0, 1) := by decide +kernel
theorem dL_samples_203 : decode cL_samples 203 = .ok (.iload 5, 2) := by decide +kernel
theorem dL_samples_205 : decode cL_samples 205 = .ok (.invokevirtual 56, 3) := by decide +kernel
theorem dL_samples_208 : decode cL_samples 208 = .ok (.iload 10, 2) := by decide +kernel
theorem dL_samples_210 : decode cL_samples 210 = .ok (.if_icmp .ne 7, 3) := by decide +kernel
theorem dL_samples_213 : decode cL_samples 213 = .ok (.iconst 1, 1) := by decide +kernel
theorem dL_samples_214 : decode cL_samples 214 = .ok (.goto 4, 3) := by decide +kernel
theorem dL_samples_217 : decode cL_samples 217 = .ok (.iconst 0, 1) := by decide +kernel
theorem dL_samples_218 : decode cL_samples 218 = .ok (.ireturn, 1) := by decide +kernel
theorem dL_samples_219 : decode cL_samples 219 = .ok (.iload 9, 2) := by decide +kernel
theorem dL_samples_221 : decode cL_samples 221 = .ok (.iconst 1, 1) := by decide +kernel
theorem dL_samples_222 : decode cL_samples 222 = .ok (.if_icmp .ne 39, 3) := by decide +kernel
theorem dL_samples_225 : decode cL_samples 225 = .ok (.iload 7, 2) := by decide +kernel
theorem dL_samples_227 : decode cL_samples 227 = .ok (.iload 6, 2) := by decide +kernel
theorem dL_samples_229 : decode cL_samples 229 = .ok (.invokestatic 89, 3) := by decide +kernel
theorem dL_samples_232 : decode cL_samples 232 = .ok (.ifCond .eq 29, 3) := by decide +kernel
theorem dL_samples_235 : decode cL_samples 235 = .ok (.iload 14, 2) := by decide +kernel
theorem dL_samples_237 : decode cL_samples 237 = .ok (.aload_n 0, 1) := by decide +kernel
theorem dL_samples_238 : decode cL_samples 238 = .ok (.iload 5, 2) := by decide +kernel
theorem dL_samples_240 : decode cL_samples 240 = .ok (.invokevirtual 59, 3) := by decide +kernel
theorem dL_samples_243 : decode cL_samples 243 = .ok (.if_icmp .ne 18, 3) := by decide +kernel
theorem dL_samples_246 : decode cL_samples 246 = .ok (.iload 14, 2) := by decide +kernel
theorem dL_samples_248 : decode cL_samples 248 = .ok (.ifCond .le 13, 3) := by decide +kernel
theorem dL_samples_251 : decode cL_samples 251 = .ok (.iload 14, 2) := by decide +kernel
theorem dL_samples_253 : decode cL_samples 253 = .ok (.iconst 4, 1) := by decide +kernel
theorem dL_samples_254 : decode cL_samples 254 = .ok (.if_icmp .ge 7, 3) := by decide +kernel
theorem dL_samples_257 : decode cL_samples 257 = .ok (.iconst 1, 1) := by decide +kernel
theorem dL_samples_258 : decode cL_samples 258 = .ok (.goto 4, 3) := by decide +kernel
theorem dL_samples_261 : decode cL_samples 261 = .ok (.iconst 0, 1) := by decide +kernel
theorem dL_samples_262 : decode cL_samples 262 = .ok (.istore 15, 2) := by decide +kernel
theorem dL_samples_264 : decode cL_samples 264 = .ok (.iload 15, 2) := by decide +kernel
theorem dL_samples_266 : decode cL_samples 266 = .ok (.ifCond .eq 127, 3) := by decide +kernel
theorem dL_samples_269 : decode cL_samples 269 = .ok (.iload 14, 2) := by decide +kernel
theorem dL_samples_271 : decode cL_samples 271 = .ok (.iconst 1, 1) := by decide +kernel
theorem dL_samples_272 : decode cL_samples 272 = .ok (.if_icmp .ne 39, 3) := by decide +kernel
theorem dL_samples_275 : decode cL_samples 275 = .ok (.aload_n 0, 1) := by decide +kernel
theorem dL_samples_276 : decode cL_samples 276 = .ok (.iload 5, 2) := by decide +kernel
theorem dL_samples_278 : decode cL_samples 278 = .ok (.invokevirtual 56, 3) := by decide +kernel
theorem dL_samples_281 : decode cL_samples 281 = .ok (.iload 10, 2) := by decide +kernel
theorem dL_samples_283 : decode cL_samples 283 = .ok (.if_icmp .ne 110, 3) := by decide +kernel
theorem dL_samples_286 : decode cL_samples 286 = .ok (.aload_n 0, 1) := by decide +kernel
theorem dL_samples_287 : decode cL_samples 287 = .ok (.iload 6, 2) := by decide +kernel
theorem dL_samples_289 : decode cL_samples 289 = .ok (.invokevirtual 44, 3) := by decide +kernel
theorem dL_samples_292 : decode cL_samples 292 = .ok (.iload 11, 2) := by decide +kernel
theorem dL_samples_294 : decode cL_samples 294 = .ok (.if_icmp .ne 99, 3) := by decide +kernel
theorem dL_samples_297 : decode cL_samples 297 = .ok (.aload_n 0, 1) := by decide +kernel
theorem dL_samples_298 : decode cL_samples 298 = .ok (.iload 6, 2) := by decide +kernel
theorem dL_samples_300 : decode cL_samples 300 = .ok (.invokevirtual 40, 3) := by decide +kernel
theorem dL_samples_303 : decode cL_samples 303 = .ok (.iload 12, 2) := by decide +kernel
theorem dL_samples_305 : decode cL_samples 305 = .ok (.if_icmp .ne 88, 3) := by decide +kernel
theorem dL_samples_308 : decode cL_samples 308 = .ok (.goto 81, 3) := by decide +kernel
theorem dL_samples_311 : decode cL_samples 311 = .ok (.iload 14, 2) := by decide +kernel
theorem dL_samples_313 : decode cL_samples 313 = .ok (.iconst 2, 1) := by decide +kernel
theorem dL_samples_314 : decode cL_samples 314 = .ok (.if_icmp .ne 33, 3) := by decide +kernel
theorem dL_samples_317 : decode cL_samples 317 = .ok (.aload_n 0, 1) := by decide +kernel
theorem dL_samples_318 : decode cL_samples 318 = .ok (.iload 6, 2) := by decide +kernel
theorem dL_samples_320 : decode cL_samples 320 = .ok (.invokevirtual 44, 3) := by decide +kernel
theorem dL_samples_323 : decode cL_samples 323 = .ok (.iload 11, 2) := by decide +kernel
theorem dL_samples_325 : decode cL_samples 325 = .ok (.iload 10, 2) := by decide +kernel
theorem dL_samples_327 : decode cL_samples 327 = .ok (.iadd, 1) := by decide +kernel
theorem dL_samples_328 : decode cL_samples 328 = .ok (.iconst 4, 1) := by decide +kernel
theorem dL_samples_329 : decode cL_samples 329 = .ok (.iadd, 1) := by decide +kernel
theorem dL_samples_330 : decode cL_samples 330 = .ok (.if_icmp .ne 63, 3) := by decide +kernel
theorem dL_samples_333 : decode cL_samples 333 = .ok (.aload_n 0, 1) := by decide +kernel
theorem dL_samples_334 : decode cL_samples 334 = .ok (.iload 6, 2) := by decide +kernel
theorem dL_samples_336 : decode cL_samples 336 = .ok (.invokevirtual 40, 3) := by decide +kernel
theorem dL_samples_339 : decode cL_samples 339 = .ok (.iload 12, 2) := by decide +kernel
theorem dL_samples_341 : decode cL_samples 341 = .ok (.if_icmp .ne 52, 3) := by decide +kernel
theorem dL_samples_344 : decode cL_samples 344 = .ok (.goto 45, 3) := by decide +kernel
theorem dL_samples_347 : decode cL_samples 347 = .ok (.aload_n 0, 1) := by decide +kernel
theorem dL_samples_348 : decode cL_samples 348 = .ok (.iload 6, 2) := by decide +kernel
theorem dL_samples_350 : decode cL_samples 350 = .ok (.invokevirtual 44, 3) := by decide +kernel
theorem dL_samples_353 : decode cL_samples 353 = .ok (.iload 11, 2) := by decide +kernel
theorem dL_samples_355 : decode cL_samples 355 = .ok (.if_icmp .ne 38, 3) := by decide +kernel
theorem dL_samples_358 : decode cL_samples 358 = .ok (.aload_n 0, 1) := by decide +kernel
theorem dL_samples_359 : decode cL_samples 359 = .ok (.iload 6, 2) := by decide +kernel
theorem dL_samples_361 : decode cL_samples 361 = .ok (.invokevirtual 40, 3) := by decide +kernel
theorem dL_samples_364 : decode cL_samples 364 = .ok (.iload 12, 2) := by decide +kernel
theorem dL_samples_366 : decode cL_samples 366 = .ok (.iload 12, 2) := by decide +kernel
theorem dL_samples_368 : decode cL_samples 368 = .ok (.ifCond .ne 7, 3) := by decide +kernel
theorem dL_samples_371 : decode cL_samples 371 = .ok (.iconst 1, 1) := by decide +kernel
theorem dL_samples_372 : decode cL_samples 372 = .ok (.goto 4, 3) := by decide +kernel
theorem dL_samples_375 : decode cL_samples 375 = .ok (.iconst 0, 1) := by decide +kernel
theorem dL_samples_376 : decode cL_samples 376 = .ok (.iadd, 1) := by decide +kernel
theorem dL_samples_377 : decode cL_samples 377 = .ok (.if_icmp .ge 16, 3) := by decide +kernel
theorem dL_samples_380 : decode cL_samples 380 = .ok (.aload_n 0, 1) := by decide +kernel
theorem dL_samples_381 : decode cL_samples 381 = .ok (.invokevirtual 36, 3) := by decide +kernel
theorem dL_samples_384 : decode cL_samples 384 = .ok (.iload 13, 2) := by decide +kernel
theorem dL_samples_386 : decode cL_samples 386 = .ok (.if_icmp .lt 7, 3) := by decide +kernel
theorem dL_samples_389 : decode cL_samples 389 = .ok (.iconst 1, 1) := by decide +kernel
theorem dL_samples_390 : decode cL_samples 390 = .ok (.goto 4, 3) := by decide +kernel
theorem dL_samples_393 : decode cL_samples 393 = .ok (.iconst 0, 1) := by decide +kernel
theorem dL_samples_394 : decode cL_samples 394 = .ok (.ireturn, 1) := by decide +kernel
set_option maxRecDepth 20000 in
theorem ggL_near_L_areNear : GoodIn wsL_near wsL_areNear := goodIn_r _ [4] (by decide +kernel) (by decide +kernel)
set_option maxRecDepth 20000 in
theorem gL_near_L_areNear : GoodIn wsL_near (va_wsS RL 89 yL_areNear wsL_areNear) := goodIn_app (goodIn_of _ (by decide +kernel)) ggL_near_L_areNear
theorem dL_near_0 : decode cL_near 0 = .ok (.iload_n 1, 1) := by decide +kernel
theorem dL_near_1 : decode cL_near 1 = .ok (.bipush 12, 2) := by decide +kernel
theorem dL_near_3 : decode cL_near 3 = .ok (.irem, 1) := by decide +kernel
theorem dL_near_4 : decode cL_near 4 = .ok (.istore_n 2, 1) := by decide +kernel
theorem dL_near_5 : decode cL_near 5 = .ok (.iload_n 2, 1) := by decide +kernel
theorem dL_near_6 : decode cL_near 6 = .ok (.iload_n 0, 1) := by decide +kernel
theorem dL_near_7 : decode cL_near 7 = .ok (.invokestatic 89, 3) := by decide +kernel
theorem dL_near_10 : decode cL_near 10 = .ok (.ifCond .ne 13, 3) := by decide +kernel
theorem dL_near_13 : decode cL_near 13 = .ok (.iload_n 2, 1) := by decide +kernel
theorem dL_near_14 : decode cL_near 14 = .ok (.iconst 1, 1) := by decide +kernel
theorem dL_near_15 : decode cL_near 15 = .ok (.iadd, 1) := by decide +kernel
theorem dL_near_16 : decode cL_near 16 = .ok (.bipush 12, 2) := by decide +kernel
theorem dL_near_18 : decode cL_near 18 = .ok (.irem, 1) := by decide +kernel
theorem dL_near_19 : decode cL_near 19 = .ok (.istore_n 2, 1) := by decide +kernel
theorem dL_near_20 : decode cL_near 20 = .ok (.goto (-15), 3) := by decide +kernel
theorem dL_near_23 : decode cL_near 23 = .ok (.iload_n 2, 1) := by decide +kernel
theorem dL_near_24 : decode cL_near 24 = .ok (.ireturn, 1) := by decide +kernel
set_option maxRecDepth 20000 in
theorem ggL_step_L_tells : GoodIn wsL_step wsL_tells := goodIn_ca (goodIn_ca (goodIn_ca (goodIn_r _ [4, 5, 6, 7, 8, 9, 10, 11, 12, 13, 14, 15, 16, 17, 18, 19, 20, 21, 22, 23, 24, 25, 26, 27, 3, 28, 29, 30, 31, 32, 33, 34, 35, 36, 37, 38, 39, 40, 41, 42, 43, 44, 45, 46, 47, 48, 49, 50, 51, 52, 53, 54, 55, 56, 57, 58, 59, 60, 61, 62, 63, 64, 65, 66, 67, 68, 69, 70, 71, 72, 73, 74, 75, 76, 77, 78, 79, 80, 81, 82, 83, 84, 85, 86, 87, 88, 89, 90, 91, 92, 93, 94, 95, 96, 97, 98, 99, 100, 101, 102, 103, 104, 105, 106, 107, 108, 109, 110, 111, 112, 113, 114, 115, 116, 117, 118, 119, 120, 121, 122, 123, 124, 125, 126, 127, 128, 129, 130, 131, 132, 133, 134, 135, 136, 137, 138, 139, 140, 141, 142, 143, 144, 145, 146, 147, 148, 149, 150, 151, 152, 153, 154, 155, 156, 157, 158, 159, 160, 161, 162, 163, 164, 165, 166, 167, 168, 169, 170, 171, 172, 173, 174, 175, 176, 177, 178, 179, 180, 181, 182, 183, 184, 185, 186, 187, 188, 189, 190, 191, 192, 193, 194, 259, 260, 261, 262, 263, 264, 265, 266, 267, 268, 269, 270, 271, 272, 273, 274, 275, 276, 277, 278, 279, 280, 281, 282, 283, 284, 285, 286, 287, 288, 289, 290, 291, 292, 293, 294, 295, 296] (by decide +kernel) (by decide +kernel)) (goodIn_sub (fun _ h => List.mem_cons_of_mem _ (List.mem_append_left _ (List.mem_append_left _ (List.mem_append_right _ h)))) (by decide +kernel))) (goodIn_sub (fun _ h => List.mem_cons_of_mem _ (List.mem_append_left _ (List.mem_append_right _ h))) (by decide +kernel))) (goodIn_sub (fun _ h => List.mem_cons_of_mem _ (List.mem_append_right _ h)) (by decide +kernel))
set_option maxRecDepth 20000 in
theorem gL_step_L_tells : GoodIn wsL_step (va_wsS RL 96 yL_tells wsL_tells) := goodIn_app (goodIn_of _ (by decide +kernel)) ggL_step_L_tells
set_option maxRecDepth 20000 in
theorem ggL_step_L_opens : GoodIn wsL_step wsL_opens := goodIn_ca (goodIn_ca (goodIn_ca (goodIn_r _ [197, 198, 199, 200, 8, 201, 21, 22, 23, 24, 14, 15, 25, 17, 18, 19, 20, 10, 11, 12, 13, 16, 26, 27, 3, 28, 29, 30, 31, 32, 33, 34, 35, 36, 37, 38, 39, 40, 41, 42, 43, 44, 45, 46, 47, 48, 49, 50, 51, 52, 53, 54, 55, 56, 57, 58, 59, 60, 61, 62, 63, 64, 65, 66, 67, 68, 69, 70, 71, 72, 73, 74, 75, 76, 77, 78, 79, 80, 81, 82, 83, 84, 85, 86, 87, 88, 89, 90, 91, 92, 93, 94, 95, 96, 97, 98, 99, 100, 101, 102, 103, 104, 105, 106, 107, 108, 109, 110, 111, 112, 113, 114, 115, 116, 117, 118, 119, 120, 121, 122, 123, 124, 125, 126, 127, 128, 129, 130, 131, 132, 133, 134, 135, 136, 137, 138, 139, 140, 141, 142, 143, 144, 145, 146, 147, 148, 149, 150, 151, 152, 153, 154, 155, 156, 157, 158, 159, 160, 161, 162, 163, 164, 165, 166, 167, 168, 169, 170, 171, 172, 173, 174, 175, 176, 177, 178, 179, 180, 181, 182, 274, 275, 266, 267, 268, 269, 270, 271, 272, 273, 259, 260, 261, 262, 263, 264, 265, 276, 277, 278, 279, 280, 281, 282, 283, 284, 285, 286, 287, 288, 289, 290, 291, 292, 293, 294, 295, 296] (by decide +kernel) (by decide +kernel)) (goodIn_sub (fun _ h => List.mem_cons_of_mem _ (List.mem_append_left _ (List.mem_append_left _ (List.mem_append_right _ h)))) (by decide +kernel))) (goodIn_sub (fun _ h => List.mem_cons_of_mem _ (List.mem_append_left _ (List.mem_append_right _ h))) (by decide +kernel))) (goodIn_sub (fun _ h => List.mem_cons_of_mem _ (List.mem_append_right _ h)) (by decide +kernel))
set_option maxRecDepth 20000 in
theorem gL_step_L_opens : GoodIn wsL_step (va_wsS RL 100 yL_opens wsL_opens) := goodIn_app (goodIn_of _ (by decide +kernel)) ggL_step_L_opens
set_option maxRecDepth 20000 in
theorem ggL_step_L_challenges : GoodIn wsL_step wsL_challenges := goodIn_ca (goodIn_ca (goodIn_ca (goodIn_r _ [204, 198, 199, 200, 8, 201, 21, 22, 23, 24, 14, 15, 25, 183, 184, 185, 186, 109, 110, 111, 112, 38, 42, 205, 206, 3, 207, 26, 27, 28, 29, 30, 31, 32, 33, 34, 35, 36, 37, 39, 40, 41, 10, 11, 12, 13, 16, 43, 44, 45, 46, 47, 48, 49, 50, 51, 52, 53, 54, 55, 56, 57, 58, 59, 60, 61, 62, 63, 64, 65, 66, 67, 68, 69, 70, 71, 72, 73, 74, 75, 76, 77, 78, 79, 80, 81, 82, 83, 84, 85, 86, 87, 88, 89, 90, 91, 92, 93, 94, 95, 96, 97, 98, 99, 100, 101, 102, 103, 104, 105, 106, 107, 108, 113, 114, 115, 116, 117, 118, 119, 120, 121, 122, 123, 124, 125, 126, 127, 128, 129, 130, 131, 132, 133, 134, 135, 136, 137, 138, 139, 140, 141, 142, 143, 144, 145, 146, 147, 148, 149, 150, 151, 152, 153, 154, 155, 156, 157, 158, 159, 160, 161, 162, 163, 164, 165, 166, 167, 168, 169, 170, 171, 172, 173, 174, 175, 176, 177, 178, 179, 180, 181, 182, 208, 209, 210, 211, 274, 275, 266, 267, 268, 269, 270, 271, 272, 273, 279, 280, 281, 282, 283, 284, 285, 286, 287, 288, 259, 260, 261, 262, 263, 264, 265, 289, 290, 291, 292, 276, 277, 278, 293, 294, 295, 296] (by decide +kernel) (by decide +kernel)) (goodIn_sub (fun _ h => List.mem_cons_of_mem _ (List.mem_append_left _ (List.mem_append_left _ (List.mem_append_right _ h)))) (by decide +kernel))) (goodIn_sub (fun _ h => List.mem_cons_of_mem _ (List.mem_append_left _ (List.mem_append_right _ h))) (by decide +kernel))) (goodIn_sub (fun _ h => List.mem_cons_of_mem _ (List.mem_append_right _ h)) (by decide +kernel))
set_option maxRecDepth 20000 in
theorem gL_step_L_challenges : GoodIn wsL_step (va_wsS RL 104 yL_challenges wsL_challenges) := goodIn_app (goodIn_of _ (by decide +kernel)) ggL_step_L_challenges
set_option maxRecDepth 20000 in
theorem ggL_step_L_samples : GoodIn wsL_step wsL_samples := goodIn_ca (goodIn_ca (goodIn_ca (goodIn_r _ [214, 215, 216, 3, 217, 205, 206, 207, 183, 184, 185, 8, 186, 109, 110, 111, 112, 14, 15, 38, 42, 191, 192, 193, 194, 218, 219, 220, 221, 10, 11, 12, 13, 16, 5, 6, 7, 9, 222, 223, 224, 225, 162, 26, 27, 28, 29, 30, 31, 32, 33, 34, 35, 36, 37, 39, 40, 41, 43, 44, 45, 46, 47, 48, 49, 50, 51, 52, 53, 54, 55, 56, 57, 58, 59, 60, 61, 62, 63, 64, 65, 66, 67, 68, 69, 70, 71, 72, 73, 74, 75, 76, 77, 78, 79, 80, 81, 82, 83, 84, 85, 86, 87, 88, 25, 89, 90, 91, 92, 93, 94, 95, 21, 22, 23, 24, 96, 97, 98, 99, 100, 101, 102, 103, 104, 105, 106, 107, 108, 113, 114, 115, 116, 117, 118, 119, 120, 121, 122, 123, 124, 125, 126, 127, 128, 129, 130, 131, 132, 133, 134, 135, 136, 137, 138, 139, 140, 141, 142, 143, 144, 145, 146, 147, 148, 149, 150, 151, 152, 153, 154, 155, 156, 157, 158, 159, 160, 161, 163, 164, 165, 166, 167, 168, 169, 170, 171, 172, 173, 174, 175, 176, 177, 178, 179, 180, 181, 182, 279, 280, 281, 282, 283, 284, 285, 286, 287, 288, 266, 267, 268, 269, 270, 271, 272, 273, 259, 260, 261, 262, 263, 264, 265, 289, 290, 291, 292, 274, 275, 276, 277, 278, 293, 294, 295, 296] (by decide +kernel) (by decide +kernel)) (goodIn_sub (fun _ h => List.mem_cons_of_mem _ (List.mem_append_left _ (List.mem_append_left _ (List.mem_append_right _ h)))) (by decide +kernel))) (goodIn_sub (fun _ h => List.mem_cons_of_mem _ (List.mem_append_left _ (List.mem_append_right _ h))) (by decide +kernel))) (goodIn_sub (fun _ h => List.mem_cons_of_mem _ (List.mem_append_right _ h)) (by decide +kernel))
set_option maxRecDepth 20000 in
theorem gL_step_L_samples : GoodIn wsL_step (va_wsS RL 108 yL_samples wsL_samples) := goodIn_app (goodIn_of _ (by decide +kernel)) ggL_step_L_samples
set_option maxRecDepth 20000 in
theorem ggL_step_X6_setLoss : GoodIn wsL_step wsX6_setLoss := goodIn_ca (goodIn_ca (goodIn_r _ [229, 178, 179, 180, 8, 181, 14, 15, 182, 43, 44, 45, 46, 47, 230, 55, 231, 232, 59, 58, 289, 290, 291, 292, 266, 267, 268, 269, 270, 271, 272, 273] (by decide +kernel) (by decide +kernel)) (goodIn_sub (fun _ h => List.mem_cons_of_mem _ (List.mem_append_left _ (List.mem_append_left _ (List.mem_append_right _ h)))) (by decide +kernel))) (goodIn_sub (fun _ h => List.mem_cons_of_mem _ (List.mem_append_right _ h)) (by decide +kernel))
set_option maxRecDepth 20000 in
theorem gL_step_X6_setLoss : GoodIn wsL_step (wsV RL 111 RX6 yX6_setLoss wsX6_setLoss) := goodIn_app (goodIn_of _ (by decide +kernel)) ggL_step_X6_setLoss
set_option maxRecDepth 20000 in
theorem ggL_step_X6_attach : GoodIn wsL_step wsX6_attach := goodIn_ca (goodIn_r _ [236, 10, 11, 12, 8, 13, 14, 15, 16, 178, 179, 180, 181, 182, 259, 260, 261, 262, 263, 264, 265, 289, 290, 291, 292, 266, 267, 268, 269, 270, 271, 272, 273] (by decide +kernel) (by decide +kernel)) (goodIn_sub (fun _ h => List.mem_cons_of_mem _ (List.mem_append_left _ (List.mem_append_left _ (List.mem_append_right _ h)))) (by decide +kernel))
set_option maxRecDepth 20000 in
theorem gL_step_X6_attach : GoodIn wsL_step (wsV RL 114 RX6 yX6_attach wsX6_attach) := goodIn_app (goodIn_of _ (by decide +kernel)) ggL_step_X6_attach
set_option maxRecDepth 20000 in
theorem ggL_step_L_asks : GoodIn wsL_step wsL_asks := goodIn_ca (goodIn_ca (goodIn_ca (goodIn_r _ [28, 29, 30, 31, 32, 33, 8, 34, 35, 36, 37, 38, 39, 40, 41, 42, 10, 11, 12, 13, 14, 15, 16, 43, 44, 45, 46, 47, 48, 49, 50, 51, 52, 53, 54, 55, 56, 57, 58, 59, 60, 61, 62, 63, 64, 65, 66, 67, 68, 69, 70, 71, 72, 73, 74, 75, 76, 77, 78, 79, 80, 81, 82, 83, 84, 85, 86, 87, 88, 25, 89, 90, 91, 92, 93, 94, 95, 21, 22, 23, 24, 96, 97, 98, 99, 100, 101, 102, 103, 104, 105, 106, 107, 108, 109, 110, 111, 112, 113, 114, 115, 116, 117, 118, 119, 120, 121, 122, 123, 124, 125, 126, 127, 128, 129, 130, 131, 132, 133, 134, 135, 136, 137, 138, 139, 140, 141, 142, 143, 144, 145, 146, 147, 148, 149, 150, 151, 152, 153, 154, 155, 156, 157, 158, 159, 160, 161, 162, 163, 164, 165, 166, 167, 168, 169, 170, 171, 172, 173, 174, 175, 176, 177, 178, 179, 180, 181, 182, 259, 260, 261, 262, 263, 264, 265, 266, 267, 268, 269, 270, 271, 272, 273, 279, 280, 281, 282, 283, 284, 285, 286, 287, 288, 289, 290, 291, 292, 274, 275, 276, 277, 278, 293, 294, 295, 296] (by decide +kernel) (by decide +kernel)) (goodIn_sub (fun _ h => List.mem_cons_of_mem _ (List.mem_append_left _ (List.mem_append_right _ h))) (by decide +kernel))) (goodIn_sub (fun _ h => List.mem_cons_of_mem _ (List.mem_append_left _ (List.mem_append_left _ (List.mem_append_right _ h)))) (by decide +kernel))) (goodIn_sub (fun _ h => List.mem_cons_of_mem _ (List.mem_append_right _ h)) (by decide +kernel))
set_option maxRecDepth 20000 in
theorem gL_step_L_asks : GoodIn wsL_step (va_wsS RL 83 yL_asks wsL_asks) := goodIn_app (goodIn_of _ (by decide +kernel)) ggL_step_L_asks
set_option maxRecDepth 20000 in
theorem ggL_step_X6_setPrice : GoodIn wsL_step wsX6_setPrice := goodIn_ca (goodIn_ca (goodIn_r _ [240, 10, 11, 12, 8, 13, 14, 15, 16, 43, 44, 45, 46, 47, 259, 260, 261, 262, 263, 264, 265, 266, 267, 268, 269, 270, 271, 272, 273] (by decide +kernel) (by decide +kernel)) (goodIn_sub (fun _ h => List.mem_cons_of_mem _ (List.mem_append_left _ (List.mem_append_left _ (List.mem_append_right _ h)))) (by decide +kernel))) (goodIn_sub (fun _ h => List.mem_cons_of_mem _ (List.mem_append_right _ h)) (by decide +kernel))
set_option maxRecDepth 20000 in
theorem gL_step_X6_setPrice : GoodIn wsL_step (wsV RL 117 RX6 yX6_setPrice wsX6_setPrice) := goodIn_app (goodIn_of _ (by decide +kernel)) ggL_step_X6_setPrice
set_option maxRecDepth 20000 in
theorem ggL_step_X6_earned : GoodIn wsL_step wsX6_earned := goodIn_ca (goodIn_r _ [221, 10, 11, 12, 8, 13, 14, 15, 16, 259, 260, 261, 262, 263, 264, 265, 266, 267, 268, 269, 270, 271, 272, 273] (by decide +kernel) (by decide +kernel)) (goodIn_sub (fun _ h => List.mem_cons_of_mem _ (List.mem_append_left _ (List.mem_append_left _ (List.mem_append_right _ h)))) (by decide +kernel))
set_option maxRecDepth 20000 in
theorem gL_step_X6_earned : GoodIn wsL_step (wsV RL 44 RX6 yX6_earned wsX6_earned) := goodIn_app (goodIn_of _ (by decide +kernel)) ggL_step_X6_earned
set_option maxRecDepth 20000 in
theorem ggL_step_X6_bond : GoodIn wsL_step wsX6_bond := goodIn_ca (goodIn_r _ [9, 10, 11, 12, 8, 13, 14, 15, 16, 259, 260, 261, 262, 263, 264, 265, 266, 267, 268, 269, 270, 271, 272, 273] (by decide +kernel) (by decide +kernel)) (goodIn_sub (fun _ h => List.mem_cons_of_mem _ (List.mem_append_left _ (List.mem_append_left _ (List.mem_append_right _ h)))) (by decide +kernel))
set_option maxRecDepth 20000 in
theorem gL_step_X6_bond : GoodIn wsL_step (wsV RL 40 RX6 yX6_bond wsX6_bond) := goodIn_app (goodIn_of _ (by decide +kernel)) ggL_step_X6_bond
set_option maxRecDepth 20000 in
theorem ggL_step_X6_advance : GoodIn wsL_step wsX6_advance := goodIn_ca (goodIn_ca (goodIn_r _ [244, 35, 36, 37, 80, 43, 44, 8, 45, 46, 47, 245, 246, 247, 248, 38, 42, 25, 249, 41, 250, 251, 75, 252, 253, 254, 255, 167, 168, 169, 139, 140, 141, 142, 143, 108, 144, 145, 117, 146, 127, 83, 128, 147, 148, 149, 150, 116, 151, 152, 153, 154, 155, 156, 157, 158, 159, 160, 161, 162, 163, 164, 165, 166, 256, 257, 258, 266, 267, 268, 269, 270, 271, 272, 273, 279, 280, 281, 282, 283, 284, 285, 286, 287, 288, 259, 260, 261, 262, 263, 264, 265, 293, 294, 295, 296, 274, 275, 276, 277, 278] (by decide +kernel) (by decide +kernel)) (goodIn_sub (fun _ h => List.mem_cons_of_mem _ (List.mem_append_left _ (List.mem_append_right _ h))) (by decide +kernel))) (goodIn_sub (fun _ h => List.mem_cons_of_mem _ (List.mem_append_right _ h)) (by decide +kernel))
set_option maxRecDepth 20000 in
theorem gL_step_X6_advance : GoodIn wsL_step (wsV RL 120 RX6 yX6_advance wsX6_advance) := goodIn_app (goodIn_of _ (by decide +kernel)) ggL_step_X6_advance
theorem dL_step_0 : decode cL_step 0 = .ok (.iload_n 1, 1) := by decide +kernel
theorem dL_step_1 : decode cL_step 1 = .ok (.bipush 8, 2) := by decide +kernel
theorem dL_step_3 : decode cL_step 3 = .ok (.if_icmp .ge 16, 3) := by decide +kernel
theorem dL_step_6 : decode cL_step 6 = .ok (.aload_n 0, 1) := by decide +kernel
theorem dL_step_7 : decode cL_step 7 = .ok (.iload_n 2, 1) := by decide +kernel
theorem dL_step_8 : decode cL_step 8 = .ok (.iload_n 3, 1) := by decide +kernel
theorem dL_step_9 : decode cL_step 9 = .ok (.aload 4, 2) := by decide +kernel
theorem dL_step_11 : decode cL_step 11 = .ok (.aload 5, 2) := by decide +kernel
theorem dL_step_13 : decode cL_step 13 = .ok (.aload 6, 2) := by decide +kernel
theorem dL_step_15 : decode cL_step 15 = .ok (.invokestatic 96, 3) := by decide +kernel
theorem dL_step_18 : decode cL_step 18 = .ok (.ireturn, 1) := by decide +kernel
theorem dL_step_19 : decode cL_step 19 = .ok (.iload_n 1, 1) := by decide +kernel
theorem dL_step_20 : decode cL_step 20 = .ok (.bipush 11, 2) := by decide +kernel
theorem dL_step_22 : decode cL_step 22 = .ok (.if_icmp .ge 12, 3) := by decide +kernel
theorem dL_step_25 : decode cL_step 25 = .ok (.aload_n 0, 1) := by decide +kernel
theorem dL_step_26 : decode cL_step 26 = .ok (.iload_n 2, 1) := by decide +kernel
theorem dL_step_27 : decode cL_step 27 = .ok (.iload_n 3, 1) := by decide +kernel
theorem dL_step_28 : decode cL_step 28 = .ok (.aload 5, 2) := by decide +kernel
theorem dL_step_30 : decode cL_step 30 = .ok (.invokestatic 100, 3) := by decide +kernel
theorem dL_step_33 : decode cL_step 33 = .ok (.ireturn, 1) := by decide +kernel
theorem dL_step_34 : decode cL_step 34 = .ok (.iload_n 1, 1) := by decide +kernel
theorem dL_step_35 : decode cL_step 35 = .ok (.bipush 13, 2) := by decide +kernel
theorem dL_step_37 : decode cL_step 37 = .ok (.if_icmp .ge 21, 3) := by decide +kernel
theorem dL_step_40 : decode cL_step 40 = .ok (.aload 5, 2) := by decide +kernel
theorem dL_step_42 : decode cL_step 42 = .ok (.iconst 1, 1) := by decide +kernel
theorem dL_step_43 : decode cL_step 43 = .ok (.iaload, 1) := by decide +kernel
theorem dL_step_44 : decode cL_step 44 = .ok (.ifCond .le 14, 3) := by decide +kernel
theorem dL_step_47 : decode cL_step 47 = .ok (.aload_n 0, 1) := by decide +kernel
theorem dL_step_48 : decode cL_step 48 = .ok (.iload_n 2, 1) := by decide +kernel
theorem dL_step_49 : decode cL_step 49 = .ok (.iload_n 3, 1) := by decide +kernel
theorem dL_step_50 : decode cL_step 50 = .ok (.aload 4, 2) := by decide +kernel
theorem dL_step_52 : decode cL_step 52 = .ok (.aload 5, 2) := by decide +kernel
theorem dL_step_54 : decode cL_step 54 = .ok (.invokestatic 104, 3) := by decide +kernel
theorem dL_step_57 : decode cL_step 57 = .ok (.ireturn, 1) := by decide +kernel
theorem dL_step_58 : decode cL_step 58 = .ok (.iload_n 1, 1) := by decide +kernel
theorem dL_step_59 : decode cL_step 59 = .ok (.bipush 18, 2) := by decide +kernel
theorem dL_step_61 : decode cL_step 61 = .ok (.if_icmp .ge 21, 3) := by decide +kernel
theorem dL_step_64 : decode cL_step 64 = .ok (.aload 5, 2) := by decide +kernel
theorem dL_step_66 : decode cL_step 66 = .ok (.iconst 1, 1) := by decide +kernel
theorem dL_step_67 : decode cL_step 67 = .ok (.iaload, 1) := by decide +kernel
theorem dL_step_68 : decode cL_step 68 = .ok (.ifCond .le 14, 3) := by decide +kernel
theorem dL_step_71 : decode cL_step 71 = .ok (.aload_n 0, 1) := by decide +kernel
theorem dL_step_72 : decode cL_step 72 = .ok (.iload_n 2, 1) := by decide +kernel
theorem dL_step_73 : decode cL_step 73 = .ok (.iload_n 3, 1) := by decide +kernel
theorem dL_step_74 : decode cL_step 74 = .ok (.aload 4, 2) := by decide +kernel
theorem dL_step_76 : decode cL_step 76 = .ok (.aload 5, 2) := by decide +kernel
theorem dL_step_78 : decode cL_step 78 = .ok (.invokestatic 108, 3) := by decide +kernel
theorem dL_step_81 : decode cL_step 81 = .ok (.ireturn, 1) := by decide +kernel
theorem dL_step_82 : decode cL_step 82 = .ok (.iload_n 1, 1) := by decide +kernel
theorem dL_step_83 : decode cL_step 83 = .ok (.bipush 18, 2) := by decide +kernel
theorem dL_step_85 : decode cL_step 85 = .ok (.if_icmp .ne 58, 3) := by decide +kernel
theorem dL_step_88 : decode cL_step 88 = .ok (.iload_n 3, 1) := by decide +kernel
theorem dL_step_89 : decode cL_step 89 = .ok (.bipush 9, 2) := by decide +kernel
theorem dL_step_91 : decode cL_step 91 = .ok (.irem, 1) := by decide +kernel
theorem dL_step_92 : decode cL_step 92 = .ok (.ifCond .ne 7, 3) := by decide +kernel
theorem dL_step_95 : decode cL_step 95 = .ok (.iconst 0, 1) := by decide +kernel
theorem dL_step_96 : decode cL_step 96 = .ok (.goto 9, 3) := by decide +kernel
theorem dL_step_99 : decode cL_step 99 = .ok (.iconst 1, 1) := by decide +kernel
theorem dL_step_100 : decode cL_step 100 = .ok (.iload_n 3, 1) := by decide +kernel
theorem dL_step_101 : decode cL_step 101 = .ok (.bipush 9, 2) := by decide +kernel
theorem dL_step_103 : decode cL_step 103 = .ok (.irem, 1) := by decide +kernel
theorem dL_step_104 : decode cL_step 104 = .ok (.iadd, 1) := by decide +kernel
theorem dL_step_105 : decode cL_step 105 = .ok (.istore 7, 2) := by decide +kernel
theorem dL_step_107 : decode cL_step 107 = .ok (.aload_n 0, 1) := by decide +kernel
theorem dL_step_108 : decode cL_step 108 = .ok (.iload_n 2, 1) := by decide +kernel
theorem dL_step_109 : decode cL_step 109 = .ok (.bipush 6, 2) := by decide +kernel
theorem dL_step_111 : decode cL_step 111 = .ok (.irem, 1) := by decide +kernel
theorem dL_step_112 : decode cL_step 112 = .ok (.iload 7, 2) := by decide +kernel
theorem dL_step_114 : decode cL_step 114 = .ok (.invokevirtual 111, 3) := by decide +kernel
theorem dL_step_117 : decode cL_step 117 = .ok (.istore 8, 2) := by decide +kernel
theorem dL_step_119 : decode cL_step 119 = .ok (.iload 8, 2) := by decide +kernel
theorem dL_step_121 : decode cL_step 121 = .ok (.ifCond .lt 20, 3) := by decide +kernel
theorem dL_step_124 : decode cL_step 124 = .ok (.aload_n 0, 1) := by decide +kernel
theorem dL_step_125 : decode cL_step 125 = .ok (.iload_n 2, 1) := by decide +kernel
theorem dL_step_126 : decode cL_step 126 = .ok (.bipush 6, 2) := by decide +kernel
theorem dL_step_128 : decode cL_step 128 = .ok (.irem, 1) := by decide +kernel
theorem dL_step_129 : decode cL_step 129 = .ok (.iload 7, 2) := by decide +kernel
theorem dL_step_131 : decode cL_step 131 = .ok (.invokevirtual 111, 3) := by decide +kernel
theorem dL_step_134 : decode cL_step 134 = .ok (.ifCond .ne 7, 3) := by decide +kernel
theorem dL_step_137 : decode cL_step 137 = .ok (.iconst 1, 1) := by decide +kernel
theorem dL_step_138 : decode cL_step 138 = .ok (.goto 4, 3) := by decide +kernel
theorem dL_step_141 : decode cL_step 141 = .ok (.iconst 0, 1) := by decide +kernel
theorem dL_step_142 : decode cL_step 142 = .ok (.ireturn, 1) := by decide +kernel
theorem dL_step_143 : decode cL_step 143 = .ok (.iload_n 1, 1) := by decide +kernel
theorem dL_step_144 : decode cL_step 144 = .ok (.bipush 19, 2) := by decide +kernel
theorem dL_step_146 : decode cL_step 146 = .ok (.if_icmp .ne 102, 3) := by decide +kernel
theorem dL_step_149 : decode cL_step 149 = .ok (.iload_n 3, 1) := by decide +kernel
theorem dL_step_150 : decode cL_step 150 = .ok (.bipush 6, 2) := by decide +kernel
theorem dL_step_152 : decode cL_step 152 = .ok (.irem, 1) := by decide +kernel
theorem dL_step_153 : decode cL_step 153 = .ok (.istore 7, 2) := by decide +kernel
theorem dL_step_155 : decode cL_step 155 = .ok (.aload_n 0, 1) := by decide +kernel
theorem dL_step_156 : decode cL_step 156 = .ok (.iload_n 2, 1) := by decide +kernel
theorem dL_step_157 : decode cL_step 157 = .ok (.bipush 12, 2) := by decide +kernel
theorem dL_step_159 : decode cL_step 159 = .ok (.irem, 1) := by decide +kernel
theorem dL_step_160 : decode cL_step 160 = .ok (.iload 7, 2) := by decide +kernel
theorem dL_step_162 : decode cL_step 162 = .ok (.invokevirtual 114, 3) := by decide +kernel
theorem dL_step_165 : decode cL_step 165 = .ok (.istore 8, 2) := by decide +kernel
theorem dL_step_167 : decode cL_step 167 = .ok (.aload_n 0, 1) := by decide +kernel
theorem dL_step_168 : decode cL_step 168 = .ok (.iconst 5, 1) := by decide +kernel
theorem dL_step_169 : decode cL_step 169 = .ok (.iconst 1, 1) := by decide +kernel
theorem dL_step_170 : decode cL_step 170 = .ok (.iload_n 2, 1) := by decide +kernel
theorem dL_step_171 : decode cL_step 171 = .ok (.iconst 5, 1) := by decide +kernel
theorem dL_step_172 : decode cL_step 172 = .ok (.irem, 1) := by decide +kernel
theorem dL_step_173 : decode cL_step 173 = .ok (.iadd, 1) := by decide +kernel
theorem dL_step_174 : decode cL_step 174 = .ok (.iload_n 3, 1) := by decide +kernel
theorem dL_step_175 : decode cL_step 175 = .ok (.iconst 5, 1) := by decide +kernel
theorem dL_step_176 : decode cL_step 176 = .ok (.irem, 1) := by decide +kernel
theorem dL_step_177 : decode cL_step 177 = .ok (.iconst 0, 1) := by decide +kernel
theorem dL_step_178 : decode cL_step 178 = .ok (.invokestatic 83, 3) := by decide +kernel
theorem dL_step_181 : decode cL_step 181 = .ok (.istore 9, 2) := by decide +kernel
theorem dL_step_183 : decode cL_step 183 = .ok (.iload 8, 2) := by decide +kernel
theorem dL_step_185 : decode cL_step 185 = .ok (.ifCond .lt 61, 3) := by decide +kernel
theorem dL_step_188 : decode cL_step 188 = .ok (.iload 8, 2) := by decide +kernel
theorem dL_step_190 : decode cL_step 190 = .ok (.bipush 6, 2) := by decide +kernel
theorem dL_step_192 : decode cL_step 192 = .ok (.if_icmp .ge 54, 3) := by decide +kernel
theorem dL_step_195 : decode cL_step 195 = .ok (.aload_n 0, 1) := by decide +kernel
theorem dL_step_196 : decode cL_step 196 = .ok (.iload_n 2, 1) := by decide +kernel
theorem dL_step_197 : decode cL_step 197 = .ok (.bipush 12, 2) := by decide +kernel
theorem dL_step_199 : decode cL_step 199 = .ok (.irem, 1) := by decide +kernel
theorem dL_step_200 : decode cL_step 200 = .ok (.iload 7, 2) := by decide +kernel
theorem dL_step_202 : decode cL_step 202 = .ok (.invokevirtual 114, 3) := by decide +kernel
theorem dL_step_205 : decode cL_step 205 = .ok (.iload 7, 2) := by decide +kernel
theorem dL_step_207 : decode cL_step 207 = .ok (.if_icmp .ne 39, 3) := by decide +kernel
theorem dL_step_210 : decode cL_step 210 = .ok (.iload_n 3, 1) := by decide +kernel
theorem dL_step_211 : decode cL_step 211 = .ok (.iconst 5, 1) := by decide +kernel
theorem dL_step_212 : decode cL_step 212 = .ok (.irem, 1) := by decide +kernel
theorem dL_step_213 : decode cL_step 213 = .ok (.iload_n 2, 1) := by decide +kernel
theorem dL_step_214 : decode cL_step 214 = .ok (.iconst 5, 1) := by decide +kernel
theorem dL_step_215 : decode cL_step 215 = .ok (.irem, 1) := by decide +kernel
theorem dL_step_216 : decode cL_step 216 = .ok (.if_icmp .le 13, 3) := by decide +kernel
theorem dL_step_219 : decode cL_step 219 = .ok (.iload 9, 2) := by decide +kernel
theorem dL_step_221 : decode cL_step 221 = .ok (.bipush (-107), 2) := by decide +kernel
theorem dL_step_223 : decode cL_step 223 = .ok (.if_icmp .ne 23, 3) := by decide +kernel
theorem dL_step_226 : decode cL_step 226 = .ok (.goto 16, 3) := by decide +kernel
theorem dL_step_229 : decode cL_step 229 = .ok (.iload 9, 2) := by decide +kernel
theorem dL_step_231 : decode cL_step 231 = .ok (.ifCond .lt 15, 3) := by decide +kernel
theorem dL_step_234 : decode cL_step 234 = .ok (.iload 9, 2) := by decide +kernel
theorem dL_step_236 : decode cL_step 236 = .ok (.iload_n 2, 1) := by decide +kernel
theorem dL_step_237 : decode cL_step 237 = .ok (.iconst 5, 1) := by decide +kernel
theorem dL_step_238 : decode cL_step 238 = .ok (.irem, 1) := by decide +kernel
theorem dL_step_239 : decode cL_step 239 = .ok (.if_icmp .gt 7, 3) := by decide +kernel
theorem dL_step_242 : decode cL_step 242 = .ok (.iconst 1, 1) := by decide +kernel
theorem dL_step_243 : decode cL_step 243 = .ok (.goto 4, 3) := by decide +kernel
theorem dL_step_246 : decode cL_step 246 = .ok (.iconst 0, 1) := by decide +kernel
theorem dL_step_247 : decode cL_step 247 = .ok (.ireturn, 1) := by decide +kernel
theorem dL_step_248 : decode cL_step 248 = .ok (.iload_n 1, 1) := by decide +kernel
theorem dL_step_249 : decode cL_step 249 = .ok (.bipush 20, 2) := by decide +kernel
theorem dL_step_251 : decode cL_step 251 = .ok (.if_icmp .ne 60, 3) := by decide +kernel
theorem dL_step_254 : decode cL_step 254 = .ok (.aload_n 0, 1) := by decide +kernel
theorem dL_step_255 : decode cL_step 255 = .ok (.iload_n 2, 1) := by decide +kernel
theorem dL_step_256 : decode cL_step 256 = .ok (.bipush 12, 2) := by decide +kernel
theorem dL_step_258 : decode cL_step 258 = .ok (.irem, 1) := by decide +kernel
theorem dL_step_259 : decode cL_step 259 = .ok (.iconst 1, 1) := by decide +kernel
theorem dL_step_260 : decode cL_step 260 = .ok (.iload_n 3, 1) := by decide +kernel
theorem dL_step_261 : decode cL_step 261 = .ok (.bipush 20, 2) := by decide +kernel
theorem dL_step_263 : decode cL_step 263 = .ok (.irem, 1) := by decide +kernel
theorem dL_step_264 : decode cL_step 264 = .ok (.iadd, 1) := by decide +kernel
theorem dL_step_265 : decode cL_step 265 = .ok (.invokevirtual 117, 3) := by decide +kernel
theorem dL_step_268 : decode cL_step 268 = .ok (.istore 7, 2) := by decide +kernel
theorem dL_step_270 : decode cL_step 270 = .ok (.iload 7, 2) := by decide +kernel
theorem dL_step_272 : decode cL_step 272 = .ok (.ifCond .le 37, 3) := by decide +kernel
theorem dL_step_275 : decode cL_step 275 = .ok (.iload 7, 2) := by decide +kernel
theorem dL_step_277 : decode cL_step 277 = .ok (.bipush 20, 2) := by decide +kernel
theorem dL_step_279 : decode cL_step 279 = .ok (.if_icmp .gt 30, 3) := by decide +kernel
theorem dL_step_282 : decode cL_step 282 = .ok (.aload_n 0, 1) := by decide +kernel
theorem dL_step_283 : decode cL_step 283 = .ok (.iload_n 2, 1) := by decide +kernel
theorem dL_step_284 : decode cL_step 284 = .ok (.bipush 12, 2) := by decide +kernel
theorem dL_step_286 : decode cL_step 286 = .ok (.irem, 1) := by decide +kernel
theorem dL_step_287 : decode cL_step 287 = .ok (.iconst 1, 1) := by decide +kernel
theorem dL_step_288 : decode cL_step 288 = .ok (.iload_n 3, 1) := by decide +kernel
theorem dL_step_289 : decode cL_step 289 = .ok (.bipush 20, 2) := by decide +kernel
theorem dL_step_291 : decode cL_step 291 = .ok (.irem, 1) := by decide +kernel
theorem dL_step_292 : decode cL_step 292 = .ok (.iadd, 1) := by decide +kernel
theorem dL_step_293 : decode cL_step 293 = .ok (.invokevirtual 117, 3) := by decide +kernel
theorem dL_step_296 : decode cL_step 296 = .ok (.iconst 1, 1) := by decide +kernel
theorem dL_step_297 : decode cL_step 297 = .ok (.iload_n 3, 1) := by decide +kernel
theorem dL_step_298 : decode cL_step 298 = .ok (.bipush 20, 2) := by decide +kernel
theorem dL_step_300 : decode cL_step 300 = .ok (.irem, 1) := by decide +kernel
theorem dL_step_301 : decode cL_step 301 = .ok (.iadd, 1) := by decide +kernel
theorem dL_step_302 : decode cL_step 302 = .ok (.if_icmp .ne 7, 3) := by decide +kernel
theorem dL_step_305 : decode cL_step 305 = .ok (.iconst 1, 1) := by decide +kernel
theorem dL_step_306 : decode cL_step 306 = .ok (.goto 4, 3) := by decide +kernel
theorem dL_step_309 : decode cL_step 309 = .ok (.iconst 0, 1) := by decide +kernel
theorem dL_step_310 : decode cL_step 310 = .ok (.ireturn, 1) := by decide +kernel
theorem dL_step_311 : decode cL_step 311 = .ok (.iload_n 1, 1) := by decide +kernel
theorem dL_step_312 : decode cL_step 312 = .ok (.bipush 21, 2) := by decide +kernel
theorem dL_step_314 : decode cL_step 314 = .ok (.if_icmp .ne 119, 3) := by decide +kernel
theorem dL_step_317 : decode cL_step 317 = .ok (.iload_n 2, 1) := by decide +kernel
theorem dL_step_318 : decode cL_step 318 = .ok (.bipush 12, 2) := by decide +kernel
theorem dL_step_320 : decode cL_step 320 = .ok (.irem, 1) := by decide +kernel
theorem dL_step_321 : decode cL_step 321 = .ok (.istore 7, 2) := by decide +kernel
theorem dL_step_323 : decode cL_step 323 = .ok (.iconst 1, 1) := by decide +kernel
theorem dL_step_324 : decode cL_step 324 = .ok (.iload_n 3, 1) := by decide +kernel
theorem dL_step_325 : decode cL_step 325 = .ok (.bipush 12, 2) := by decide +kernel
theorem dL_step_327 : decode cL_step 327 = .ok (.irem, 1) := by decide +kernel
theorem dL_step_328 : decode cL_step 328 = .ok (.iadd, 1) := by decide +kernel
theorem dL_step_329 : decode cL_step 329 = .ok (.istore 8, 2) := by decide +kernel
theorem dL_step_331 : decode cL_step 331 = .ok (.aload_n 0, 1) := by decide +kernel
theorem dL_step_332 : decode cL_step 332 = .ok (.iload 7, 2) := by decide +kernel
theorem dL_step_334 : decode cL_step 334 = .ok (.invokevirtual 44, 3) := by decide +kernel
theorem dL_step_337 : decode cL_step 337 = .ok (.istore 9, 2) := by decide +kernel
theorem dL_step_339 : decode cL_step 339 = .ok (.aload_n 0, 1) := by decide +kernel
theorem dL_step_340 : decode cL_step 340 = .ok (.iload 7, 2) := by decide +kernel
theorem dL_step_342 : decode cL_step 342 = .ok (.invokevirtual 40, 3) := by decide +kernel
theorem dL_step_345 : decode cL_step 345 = .ok (.istore 10, 2) := by decide +kernel
theorem dL_step_347 : decode cL_step 347 = .ok (.aload_n 0, 1) := by decide +kernel
theorem dL_step_348 : decode cL_step 348 = .ok (.iconst 4, 1) := by decide +kernel
theorem dL_step_349 : decode cL_step 349 = .ok (.iload 7, 2) := by decide +kernel
theorem dL_step_351 : decode cL_step 351 = .ok (.iload 8, 2) := by decide +kernel
theorem dL_step_353 : decode cL_step 353 = .ok (.iconst 0, 1) := by decide +kernel
theorem dL_step_354 : decode cL_step 354 = .ok (.invokestatic 83, 3) := by decide +kernel
theorem dL_step_357 : decode cL_step 357 = .ok (.istore 11, 2) := by decide +kernel
theorem dL_step_359 : decode cL_step 359 = .ok (.iload 9, 2) := by decide +kernel
theorem dL_step_361 : decode cL_step 361 = .ok (.iload 8, 2) := by decide +kernel
theorem dL_step_363 : decode cL_step 363 = .ok (.if_icmp .ge 29, 3) := by decide +kernel
theorem dL_step_366 : decode cL_step 366 = .ok (.iload 11, 2) := by decide +kernel
theorem dL_step_368 : decode cL_step 368 = .ok (.bipush (-108), 2) := by decide +kernel
theorem dL_step_370 : decode cL_step 370 = .ok (.if_icmp .ne 18, 3) := by decide +kernel
theorem dL_step_373 : decode cL_step 373 = .ok (.aload_n 0, 1) := by decide +kernel
theorem dL_step_374 : decode cL_step 374 = .ok (.iload 7, 2) := by decide +kernel
theorem dL_step_376 : decode cL_step 376 = .ok (.invokevirtual 40, 3) := by decide +kernel
theorem dL_step_379 : decode cL_step 379 = .ok (.iload 10, 2) := by decide +kernel
theorem dL_step_381 : decode cL_step 381 = .ok (.if_icmp .ne 7, 3) := by decide +kernel
theorem dL_step_384 : decode cL_step 384 = .ok (.iconst 1, 1) := by decide +kernel
theorem dL_step_385 : decode cL_step 385 = .ok (.goto 47, 3) := by decide +kernel
theorem dL_step_388 : decode cL_step 388 = .ok (.iconst 0, 1) := by decide +kernel
theorem dL_step_389 : decode cL_step 389 = .ok (.goto 43, 3) := by decide +kernel
theorem dL_step_392 : decode cL_step 392 = .ok (.iload 11, 2) := by decide +kernel
theorem dL_step_394 : decode cL_step 394 = .ok (.iload 10, 2) := by decide +kernel
theorem dL_step_396 : decode cL_step 396 = .ok (.iload 8, 2) := by decide +kernel
theorem dL_step_398 : decode cL_step 398 = .ok (.iadd, 1) := by decide +kernel
theorem dL_step_399 : decode cL_step 399 = .ok (.if_icmp .ne 32, 3) := by decide +kernel
theorem dL_step_402 : decode cL_step 402 = .ok (.aload_n 0, 1) := by decide +kernel
theorem dL_step_403 : decode cL_step 403 = .ok (.iload 7, 2) := by decide +kernel
theorem dL_step_405 : decode cL_step 405 = .ok (.invokevirtual 44, 3) := by decide +kernel
theorem dL_step_408 : decode cL_step 408 = .ok (.iload 9, 2) := by decide +kernel
theorem dL_step_410 : decode cL_step 410 = .ok (.iload 8, 2) := by decide +kernel
theorem dL_step_412 : decode cL_step 412 = .ok (.isub, 1) := by decide +kernel
theorem dL_step_413 : decode cL_step 413 = .ok (.if_icmp .ne 18, 3) := by decide +kernel
theorem dL_step_416 : decode cL_step 416 = .ok (.aload_n 0, 1) := by decide +kernel
theorem dL_step_417 : decode cL_step 417 = .ok (.iload 7, 2) := by decide +kernel
theorem dL_step_419 : decode cL_step 419 = .ok (.invokevirtual 40, 3) := by decide +kernel
theorem dL_step_422 : decode cL_step 422 = .ok (.iload 11, 2) := by decide +kernel
theorem dL_step_424 : decode cL_step 424 = .ok (.if_icmp .ne 7, 3) := by decide +kernel
theorem dL_step_427 : decode cL_step 427 = .ok (.iconst 1, 1) := by decide +kernel
theorem dL_step_428 : decode cL_step 428 = .ok (.goto 4, 3) := by decide +kernel
theorem dL_step_431 : decode cL_step 431 = .ok (.iconst 0, 1) := by decide +kernel
theorem dL_step_432 : decode cL_step 432 = .ok (.ireturn, 1) := by decide +kernel
theorem dL_step_433 : decode cL_step 433 = .ok (.iconst 1, 1) := by decide +kernel
theorem dL_step_434 : decode cL_step 434 = .ok (.iload_n 3, 1) := by decide +kernel
theorem dL_step_435 : decode cL_step 435 = .ok (.iload_n 3, 1) := by decide +kernel
theorem dL_step_436 : decode cL_step 436 = .ok (.iconst 5, 1) := by decide +kernel
theorem dL_step_437 : decode cL_step 437 = .ok (.irem, 1) := by decide +kernel
theorem dL_step_438 : decode cL_step 438 = .ok (.ifCond .ne 8, 3) := by decide +kernel
theorem dL_step_441 : decode cL_step 441 = .ok (.bipush 12, 2) := by decide +kernel
theorem dL_step_443 : decode cL_step 443 = .ok (.goto 4, 3) := by decide +kernel
theorem dL_step_446 : decode cL_step 446 = .ok (.iconst 2, 1) := by decide +kernel
theorem dL_step_447 : decode cL_step 447 = .ok (.irem, 1) := by decide +kernel
theorem dL_step_448 : decode cL_step 448 = .ok (.iadd, 1) := by decide +kernel
theorem dL_step_449 : decode cL_step 449 = .ok (.istore 7, 2) := by decide +kernel
theorem dL_step_451 : decode cL_step 451 = .ok (.aload 5, 2) := by decide +kernel
theorem dL_step_453 : decode cL_step 453 = .ok (.iconst 0, 1) := by decide +kernel
theorem dL_step_454 : decode cL_step 454 = .ok (.dup2, 1) := by decide +kernel
theorem dL_step_455 : decode cL_step 455 = .ok (.iaload, 1) := by decide +kernel
theorem dL_step_456 : decode cL_step 456 = .ok (.iload 7, 2) := by decide +kernel
theorem dL_step_458 : decode cL_step 458 = .ok (.iadd, 1) := by decide +kernel
theorem dL_step_459 : decode cL_step 459 = .ok (.iastore, 1) := by decide +kernel
theorem dL_step_460 : decode cL_step 460 = .ok (.aload_n 0, 1) := by decide +kernel
theorem dL_step_461 : decode cL_step 461 = .ok (.iload 7, 2) := by decide +kernel
theorem dL_step_463 : decode cL_step 463 = .ok (.invokevirtual 120, 3) := by decide +kernel
theorem dL_step_466 : decode cL_step 466 = .ok (.aload 5, 2) := by decide +kernel
theorem dL_step_468 : decode cL_step 468 = .ok (.iconst 0, 1) := by decide +kernel
theorem dL_step_469 : decode cL_step 469 = .ok (.iaload, 1) := by decide +kernel
theorem dL_step_470 : decode cL_step 470 = .ok (.if_icmp .ne 7, 3) := by decide +kernel
theorem dL_step_473 : decode cL_step 473 = .ok (.iconst 1, 1) := by decide +kernel
theorem dL_step_474 : decode cL_step 474 = .ok (.goto 4, 3) := by decide +kernel
theorem dL_step_477 : decode cL_step 477 = .ok (.iconst 0, 1) := by decide +kernel
theorem dL_step_478 : decode cL_step 478 = .ok (.ireturn, 1) := by decide +kernel
set_option maxRecDepth 20000 in
theorem ggL_bonds_X6_init : GoodIn wsL_bonds wsX6_init := goodIn_r _ [8, 9, 10, 11, 12, 13, 14, 15, 16, 17, 18, 19, 20, 21, 22, 23, 24, 25, 26, 27, 28, 29, 30, 31, 32, 33, 34, 35, 36, 37, 38, 39, 40, 41, 42, 43, 44, 45, 46, 47, 48, 49, 50, 51, 52, 519, 520, 521, 522, 523, 524, 525, 526, 527, 528, 529, 530, 531, 532, 533, 534, 535, 536, 537, 538, 539] (by decide +kernel) (by decide +kernel)
set_option maxRecDepth 20000 in
theorem gL_bonds_X6_init : GoodIn wsL_bonds (wsX6_init) := ggL_bonds_X6_init
set_option maxRecDepth 20000 in
theorem ggL_bonds_L_draw : GoodIn wsL_bonds wsL_draw := goodIn_r _ [56, 57, 58, 59] (by decide +kernel) (by decide +kernel)
set_option maxRecDepth 20000 in
theorem gL_bonds_L_draw : GoodIn wsL_bonds (va_wsS RL 125 yL_draw wsL_draw) := goodIn_app (goodIn_of _ (by decide +kernel)) ggL_bonds_L_draw
set_option maxRecDepth 20000 in
theorem ggL_bonds_L_isWhole : GoodIn wsL_bonds wsL_isWhole := goodIn_ca (goodIn_r _ [306, 267, 268, 269, 3, 270, 21, 66, 67, 68, 69, 70, 71, 72, 73, 74, 75, 15, 263, 264, 265, 266, 307, 308, 309, 310, 20, 19, 76, 77, 78, 79, 80, 81, 82, 83, 17, 243, 244, 245, 246, 236, 237, 238, 239, 156, 157, 158, 159, 228, 229, 230, 231, 519, 520, 521, 522, 523, 524, 525, 526, 531, 532, 533, 534, 535, 536, 537, 543, 544, 545, 546, 547, 548, 549, 550, 551, 552, 538, 539, 540, 541, 542] (by decide +kernel) (by decide +kernel)) (goodIn_sub (fun _ h => List.mem_cons_of_mem _ (List.mem_append_left _ (List.mem_append_left _ (List.mem_append_right _ h)))) (by decide +kernel))
set_option maxRecDepth 20000 in
theorem gL_bonds_L_isWhole : GoodIn wsL_bonds (va_wsS RL 133 yL_isWhole wsL_isWhole) := goodIn_app (goodIn_of _ (by decide +kernel)) ggL_bonds_L_isWhole
set_option maxRecDepth 20000 in
theorem ggL_bonds_L_areMarks : GoodIn wsL_bonds wsL_areMarks := goodIn_ca (goodIn_r _ [511, 228, 229, 230, 3, 231, 156, 157, 158, 159, 74, 75, 20, 19, 512, 513, 514, 515, 70, 71, 72, 73, 15, 516, 517, 518, 543, 544, 545, 546, 547, 548, 549, 550, 551, 552, 519, 520, 521, 522, 523, 524, 525, 526] (by decide +kernel) (by decide +kernel)) (goodIn_sub (fun _ h => List.mem_cons_of_mem _ (List.mem_append_left _ (List.mem_append_left _ (List.mem_append_right _ h)))) (by decide +kernel))
set_option maxRecDepth 20000 in
theorem gL_bonds_L_areMarks : GoodIn wsL_bonds (va_wsS RL 141 yL_areMarks wsL_areMarks) := goodIn_app (goodIn_of _ (by decide +kernel)) ggL_bonds_L_areMarks
theorem dL_bonds_0 : decode cL_bonds 0 = .ok (.new 11, 3) := by decide +kernel
theorem dL_bonds_3 : decode cL_bonds 3 = .ok (.dup, 1) := by decide +kernel
theorem dL_bonds_4 : decode cL_bonds 4 = .ok (.invokespecial 123, 3) := by decide +kernel
theorem dL_bonds_7 : decode cL_bonds 7 = .ok (.astore_n 2, 1) := by decide +kernel
theorem dL_bonds_8 : decode cL_bonds 8 = .ok (.bipush 64, 2) := by decide +kernel
theorem dL_bonds_10 : decode cL_bonds 10 = .ok (.newarray .int, 2) := by decide +kernel
theorem dL_bonds_12 : decode cL_bonds 12 = .ok (.astore_n 3, 1) := by decide +kernel
theorem dL_bonds_13 : decode cL_bonds 13 = .ok (.iconst 2, 1) := by decide +kernel
theorem dL_bonds_14 : decode cL_bonds 14 = .ok (.newarray .int, 2) := by decide +kernel
theorem dL_bonds_16 : decode cL_bonds 16 = .ok (.astore 4, 2) := by decide +kernel
theorem dL_bonds_18 : decode cL_bonds 18 = .ok (.bipush 12, 2) := by decide +kernel
theorem dL_bonds_20 : decode cL_bonds 20 = .ok (.newarray .int, 2) := by decide +kernel
theorem dL_bonds_22 : decode cL_bonds 22 = .ok (.astore 5, 2) := by decide +kernel
theorem dL_bonds_24 : decode cL_bonds 24 = .ok (.iconst 0, 1) := by decide +kernel
theorem dL_bonds_25 : decode cL_bonds 25 = .ok (.istore 6, 2) := by decide +kernel
theorem dL_bonds_27 : decode cL_bonds 27 = .ok (.iload 6, 2) := by decide +kernel
theorem dL_bonds_29 : decode cL_bonds 29 = .ok (.bipush 84, 2) := by decide +kernel
theorem dL_bonds_31 : decode cL_bonds 31 = .ok (.if_icmp .ge 137, 3) := by decide +kernel
theorem dL_bonds_34 : decode cL_bonds 34 = .ok (.aload 4, 2) := by decide +kernel
theorem dL_bonds_36 : decode cL_bonds 36 = .ok (.iconst 1, 1) := by decide +kernel
theorem dL_bonds_37 : decode cL_bonds 37 = .ok (.iaload, 1) := by decide +kernel
theorem dL_bonds_38 : decode cL_bonds 38 = .ok (.bipush 62, 2) := by decide +kernel
theorem dL_bonds_40 : decode cL_bonds 40 = .ok (.if_icmp .ge 128, 3) := by decide +kernel
theorem dL_bonds_43 : decode cL_bonds 43 = .ok (.aload_n 0, 1) := by decide +kernel
theorem dL_bonds_44 : decode cL_bonds 44 = .ok (.iload_n 1, 1) := by decide +kernel
theorem dL_bonds_45 : decode cL_bonds 45 = .ok (.iconst 3, 1) := by decide +kernel
theorem dL_bonds_46 : decode cL_bonds 46 = .ok (.iload 6, 2) := by decide +kernel
theorem dL_bonds_48 : decode cL_bonds 48 = .ok (.imul, 1) := by decide +kernel
theorem dL_bonds_49 : decode cL_bonds 49 = .ok (.iadd, 1) := by decide +kernel
theorem dL_bonds_50 : decode cL_bonds 50 = .ok (.iconst 1, 1) := by decide +kernel
theorem dL_bonds_51 : decode cL_bonds 51 = .ok (.iadd, 1) := by decide +kernel
theorem dL_bonds_52 : decode cL_bonds 52 = .ok (.ldc 124, 2) := by decide +kernel
theorem dL_bonds_54 : decode cL_bonds 54 = .ok (.invokestatic 125, 3) := by decide +kernel
theorem dL_bonds_57 : decode cL_bonds 57 = .ok (.istore 7, 2) := by decide +kernel
theorem dL_bonds_59 : decode cL_bonds 59 = .ok (.aload_n 0, 1) := by decide +kernel
theorem dL_bonds_60 : decode cL_bonds 60 = .ok (.iload_n 1, 1) := by decide +kernel
theorem dL_bonds_61 : decode cL_bonds 61 = .ok (.iconst 3, 1) := by decide +kernel
theorem dL_bonds_62 : decode cL_bonds 62 = .ok (.iload 6, 2) := by decide +kernel
theorem dL_bonds_64 : decode cL_bonds 64 = .ok (.imul, 1) := by decide +kernel
theorem dL_bonds_65 : decode cL_bonds 65 = .ok (.iadd, 1) := by decide +kernel
theorem dL_bonds_66 : decode cL_bonds 66 = .ok (.iconst 2, 1) := by decide +kernel
theorem dL_bonds_67 : decode cL_bonds 67 = .ok (.iadd, 1) := by decide +kernel
theorem dL_bonds_68 : decode cL_bonds 68 = .ok (.ldc 124, 2) := by decide +kernel
theorem dL_bonds_70 : decode cL_bonds 70 = .ok (.invokestatic 125, 3) := by decide +kernel
theorem dL_bonds_73 : decode cL_bonds 73 = .ok (.istore 8, 2) := by decide +kernel
theorem dL_bonds_75 : decode cL_bonds 75 = .ok (.aload_n 2, 1) := by decide +kernel
theorem dL_bonds_76 : decode cL_bonds 76 = .ok (.iload 6, 2) := by decide +kernel
theorem dL_bonds_78 : decode cL_bonds 78 = .ok (.iconst 4, 1) := by decide +kernel
theorem dL_bonds_79 : decode cL_bonds 79 = .ok (.if_icmp .ge 8, 3) := by decide +kernel
theorem dL_bonds_82 : decode cL_bonds 82 = .ok (.bipush 8, 2) := by decide +kernel
theorem dL_bonds_84 : decode cL_bonds 84 = .ok (.goto 26, 3) := by decide +kernel
theorem dL_bonds_87 : decode cL_bonds 87 = .ok (.iload 6, 2) := by decide +kernel
theorem dL_bonds_89 : decode cL_bonds 89 = .ok (.bipush 9, 2) := by decide +kernel
theorem dL_bonds_91 : decode cL_bonds 91 = .ok (.if_icmp .ge 7, 3) := by decide +kernel
theorem dL_bonds_94 : decode cL_bonds 94 = .ok (.iconst 0, 1) := by decide +kernel
theorem dL_bonds_95 : decode cL_bonds 95 = .ok (.goto 15, 3) := by decide +kernel
theorem dL_bonds_98 : decode cL_bonds 98 = .ok (.aload_n 0, 1) := by decide +kernel
theorem dL_bonds_99 : decode cL_bonds 99 = .ok (.iload_n 1, 1) := by decide +kernel
theorem dL_bonds_100 : decode cL_bonds 100 = .ok (.iconst 3, 1) := by decide +kernel
theorem dL_bonds_101 : decode cL_bonds 101 = .ok (.iload 6, 2) := by decide +kernel
theorem dL_bonds_103 : decode cL_bonds 103 = .ok (.imul, 1) := by decide +kernel
theorem dL_bonds_104 : decode cL_bonds 104 = .ok (.iadd, 1) := by decide +kernel
theorem dL_bonds_105 : decode cL_bonds 105 = .ok (.bipush 25, 2) := by decide +kernel
theorem dL_bonds_107 : decode cL_bonds 107 = .ok (.invokestatic 125, 3) := by decide +kernel
theorem dL_bonds_110 : decode cL_bonds 110 = .ok (.iload 7, 2) := by decide +kernel
theorem dL_bonds_112 : decode cL_bonds 112 = .ok (.iload 8, 2) := by decide +kernel
theorem dL_bonds_114 : decode cL_bonds 114 = .ok (.aload_n 3, 1) := by decide +kernel
theorem dL_bonds_115 : decode cL_bonds 115 = .ok (.aload 4, 2) := by decide +kernel
theorem dL_bonds_117 : decode cL_bonds 117 = .ok (.aload 5, 2) := by decide +kernel
theorem dL_bonds_119 : decode cL_bonds 119 = .ok (.invokestatic 129, 3) := by decide +kernel
theorem dL_bonds_122 : decode cL_bonds 122 = .ok (.ifCond .eq 38, 3) := by decide +kernel
theorem dL_bonds_125 : decode cL_bonds 125 = .ok (.iload 6, 2) := by decide +kernel
theorem dL_bonds_127 : decode cL_bonds 127 = .ok (.iconst 3, 1) := by decide +kernel
theorem dL_bonds_128 : decode cL_bonds 128 = .ok (.irem, 1) := by decide +kernel
theorem dL_bonds_129 : decode cL_bonds 129 = .ok (.iconst 2, 1) := by decide +kernel
theorem dL_bonds_130 : decode cL_bonds 130 = .ok (.if_icmp .ne 12, 3) := by decide +kernel
theorem dL_bonds_133 : decode cL_bonds 133 = .ok (.aload_n 2, 1) := by decide +kernel
theorem dL_bonds_134 : decode cL_bonds 134 = .ok (.aload 4, 2) := by decide +kernel
theorem dL_bonds_136 : decode cL_bonds 136 = .ok (.invokestatic 133, 3) := by decide +kernel
theorem dL_bonds_139 : decode cL_bonds 139 = .ok (.ifCond .eq 21, 3) := by decide +kernel
theorem dL_bonds_142 : decode cL_bonds 142 = .ok (.iload 6, 2) := by decide +kernel
theorem dL_bonds_144 : decode cL_bonds 144 = .ok (.iconst 4, 1) := by decide +kernel
theorem dL_bonds_145 : decode cL_bonds 145 = .ok (.irem, 1) := by decide +kernel
theorem dL_bonds_146 : decode cL_bonds 146 = .ok (.iconst 3, 1) := by decide +kernel
theorem dL_bonds_147 : decode cL_bonds 147 = .ok (.if_icmp .ne 15, 3) := by decide +kernel
theorem dL_bonds_150 : decode cL_bonds 150 = .ok (.aload_n 2, 1) := by decide +kernel
theorem dL_bonds_151 : decode cL_bonds 151 = .ok (.aload_n 3, 1) := by decide +kernel
theorem dL_bonds_152 : decode cL_bonds 152 = .ok (.aload 4, 2) := by decide +kernel
theorem dL_bonds_154 : decode cL_bonds 154 = .ok (.invokestatic 137, 3) := by decide +kernel
theorem dL_bonds_157 : decode cL_bonds 157 = .ok (.ifCond .ne 5, 3) := by decide +kernel
theorem dL_bonds_160 : decode cL_bonds 160 = .ok (.iconst 0, 1) := by decide +kernel
theorem dL_bonds_161 : decode cL_bonds 161 = .ok (.ireturn, 1) := by decide +kernel
theorem dL_bonds_162 : decode cL_bonds 162 = .ok (.iinc 6 1, 3) := by decide +kernel
theorem dL_bonds_165 : decode cL_bonds 165 = .ok (.goto (-138), 3) := by decide +kernel
theorem dL_bonds_168 : decode cL_bonds 168 = .ok (.aload_n 2, 1) := by decide +kernel
theorem dL_bonds_169 : decode cL_bonds 169 = .ok (.aload 4, 2) := by decide +kernel
theorem dL_bonds_171 : decode cL_bonds 171 = .ok (.invokestatic 133, 3) := by decide +kernel
theorem dL_bonds_174 : decode cL_bonds 174 = .ok (.ifCond .eq 27, 3) := by decide +kernel
theorem dL_bonds_177 : decode cL_bonds 177 = .ok (.aload_n 2, 1) := by decide +kernel
theorem dL_bonds_178 : decode cL_bonds 178 = .ok (.aload_n 3, 1) := by decide +kernel
theorem dL_bonds_179 : decode cL_bonds 179 = .ok (.aload 4, 2) := by decide +kernel
theorem dL_bonds_181 : decode cL_bonds 181 = .ok (.invokestatic 137, 3) := by decide +kernel
theorem dL_bonds_184 : decode cL_bonds 184 = .ok (.ifCond .eq 17, 3) := by decide +kernel
theorem dL_bonds_187 : decode cL_bonds 187 = .ok (.aload_n 2, 1) := by decide +kernel
theorem dL_bonds_188 : decode cL_bonds 188 = .ok (.aload_n 3, 1) := by decide +kernel
theorem dL_bonds_189 : decode cL_bonds 189 = .ok (.aload 4, 2) := by decide +kernel
theorem dL_bonds_191 : decode cL_bonds 191 = .ok (.invokestatic 141, 3) := by decide +kernel
theorem dL_bonds_194 : decode cL_bonds 194 = .ok (.ifCond .eq 7, 3) := by decide +kernel
theorem dL_bonds_197 : decode cL_bonds 197 = .ok (.iconst 1, 1) := by decide +kernel
theorem dL_bonds_198 : decode cL_bonds 198 = .ok (.goto 4, 3) := by decide +kernel
theorem dL_bonds_201 : decode cL_bonds 201 = .ok (.iconst 0, 1) := by decide +kernel
theorem dL_bonds_202 : decode cL_bonds 202 = .ok (.ireturn, 1) := by decide +kernel
theorem dL_law_0 : decode cL_law 0 = .ok (.aload_n 0, 1) := by decide +kernel
theorem dL_law_1 : decode cL_law 1 = .ok (.iconst 0, 1) := by decide +kernel
theorem dL_law_2 : decode cL_law 2 = .ok (.invokestatic 144, 3) := by decide +kernel
theorem dL_law_5 : decode cL_law 5 = .ok (.ifCond .eq 27, 3) := by decide +kernel
theorem dL_law_8 : decode cL_law 8 = .ok (.aload_n 0, 1) := by decide +kernel
theorem dL_law_9 : decode cL_law 9 = .ok (.sipush 255, 3) := by decide +kernel
theorem dL_law_12 : decode cL_law 12 = .ok (.invokestatic 144, 3) := by decide +kernel
theorem dL_law_15 : decode cL_law 15 = .ok (.ifCond .eq 17, 3) := by decide +kernel
theorem dL_law_18 : decode cL_law 18 = .ok (.aload_n 0, 1) := by decide +kernel
theorem dL_law_19 : decode cL_law 19 = .ok (.sipush 510, 3) := by decide +kernel
theorem dL_law_22 : decode cL_law 22 = .ok (.invokestatic 144, 3) := by decide +kernel
theorem dL_law_25 : decode cL_law 25 = .ok (.ifCond .eq 7, 3) := by decide +kernel
theorem dL_law_28 : decode cL_law 28 = .ok (.iconst 1, 1) := by decide +kernel
theorem dL_law_29 : decode cL_law 29 = .ok (.goto 4, 3) := by decide +kernel
theorem dL_law_32 : decode cL_law 32 = .ok (.iconst 0, 1) := by decide +kernel
theorem dL_law_33 : decode cL_law 33 = .ok (.ireturn, 1) := by decide +kernel

