theorem dL_act_8 : decode cL_act 8 = .ok (.istore_n 3, 1) := by decide +kernel
theorem dL_act_9 : decode cL_act 9 = .ok (.iload_n 2, 1) := by decide +kernel
theorem dL_act_10 : decode cL_act 10 = .ok (.bipush 8, 2) := by decide +kernel
theorem dL_act_12 : decode cL_act 12 = .ok (.invokestatic 30, 3) := by decide +kernel
theorem dL_act_15 : decode cL_act 15 = .ok (.istore 4, 2) := by decide +kernel
theorem dL_act_17 : decode cL_act 17 = .ok (.iload_n 1, 1) := by decide +kernel
theorem dL_act_18 : decode cL_act 18 = .ok (.bipush 15, 2) := by decide +kernel
theorem dL_act_20 : decode cL_act 20 = .ok (.iand, 1) := by decide +kernel
theorem dL_act_21 : decode cL_act 21 = .ok (.tableswitch 177 0 12 #[67, 67, 67, 67, 67, 67, 75, 83, 83, 99, 122, 122, 153], 67) := by decide +kernel
theorem dL_act_88 : decode cL_act 88 = .ok (.aload_n 0, 1) := by decide +kernel
theorem dL_act_89 : decode cL_act 89 = .ok (.iload_n 3, 1) := by decide +kernel
theorem dL_act_90 : decode cL_act 90 = .ok (.iload 4, 2) := by decide +kernel
theorem dL_act_92 : decode cL_act 92 = .ok (.invokevirtual 35, 3) := by decide +kernel
theorem dL_act_95 : decode cL_act 95 = .ok (.ireturn, 1) := by decide +kernel
theorem dL_act_96 : decode cL_act 96 = .ok (.aload_n 0, 1) := by decide +kernel
theorem dL_act_97 : decode cL_act 97 = .ok (.iload_n 3, 1) := by decide +kernel
theorem dL_act_98 : decode cL_act 98 = .ok (.iload 4, 2) := by decide +kernel
theorem dL_act_100 : decode cL_act 100 = .ok (.invokevirtual 38, 3) := by decide +kernel
theorem dL_act_103 : decode cL_act 103 = .ok (.ireturn, 1) := by decide +kernel
theorem dL_act_104 : decode cL_act 104 = .ok (.aload_n 0, 1) := by decide +kernel
theorem dL_act_105 : decode cL_act 105 = .ok (.iload_n 3, 1) := by decide +kernel
theorem dL_act_106 : decode cL_act 106 = .ok (.iload 4, 2) := by decide +kernel
theorem dL_act_108 : decode cL_act 108 = .ok (.iload_n 2, 1) := by decide +kernel
theorem dL_act_109 : decode cL_act 109 = .ok (.iconst 3, 1) := by decide +kernel
theorem dL_act_110 : decode cL_act 110 = .ok (.ishr, 1) := by decide +kernel
theorem dL_act_111 : decode cL_act 111 = .ok (.bipush 7, 2) := by decide +kernel
theorem dL_act_113 : decode cL_act 113 = .ok (.invokestatic 30, 3) := by decide +kernel
theorem dL_act_116 : decode cL_act 116 = .ok (.invokevirtual 41, 3) := by decide +kernel
theorem dL_act_119 : decode cL_act 119 = .ok (.ireturn, 1) := by decide +kernel
theorem dL_act_120 : decode cL_act 120 = .ok (.iload_n 2, 1) := by decide +kernel
theorem dL_act_121 : decode cL_act 121 = .ok (.iconst 4, 1) := by decide +kernel
theorem dL_act_122 : decode cL_act 122 = .ok (.ishr, 1) := by decide +kernel
theorem dL_act_123 : decode cL_act 123 = .ok (.iconst 1, 1) := by decide +kernel
theorem dL_act_124 : decode cL_act 124 = .ok (.iand, 1) := by decide +kernel
theorem dL_act_125 : decode cL_act 125 = .ok (.ifCond .ne 13, 3) := by decide +kernel
theorem dL_act_128 : decode cL_act 128 = .ok (.aload_n 0, 1) := by decide +kernel
theorem dL_act_129 : decode cL_act 129 = .ok (.iload_n 3, 1) := by decide +kernel
theorem dL_act_130 : decode cL_act 130 = .ok (.iload 4, 2) := by decide +kernel
theorem dL_act_132 : decode cL_act 132 = .ok (.invokevirtual 44, 3) := by decide +kernel
theorem dL_act_135 : decode cL_act 135 = .ok (.goto 7, 3) := by decide +kernel
theorem dL_act_138 : decode cL_act 138 = .ok (.aload_n 0, 1) := by decide +kernel
theorem dL_act_139 : decode cL_act 139 = .ok (.invokevirtual 47, 3) := by decide +kernel
theorem dL_act_142 : decode cL_act 142 = .ok (.ireturn, 1) := by decide +kernel
theorem dL_act_143 : decode cL_act 143 = .ok (.aload_n 0, 1) := by decide +kernel
theorem dL_act_144 : decode cL_act 144 = .ok (.iload_n 2, 1) := by decide +kernel
theorem dL_act_145 : decode cL_act 145 = .ok (.iconst 5, 1) := by decide +kernel
theorem dL_act_146 : decode cL_act 146 = .ok (.invokestatic 30, 3) := by decide +kernel
theorem dL_act_149 : decode cL_act 149 = .ok (.iload_n 2, 1) := by decide +kernel
theorem dL_act_150 : decode cL_act 150 = .ok (.iconst 3, 1) := by decide +kernel
theorem dL_act_151 : decode cL_act 151 = .ok (.ishr, 1) := by decide +kernel
theorem dL_act_152 : decode cL_act 152 = .ok (.iconst 4, 1) := by decide +kernel
theorem dL_act_153 : decode cL_act 153 = .ok (.invokestatic 30, 3) := by decide +kernel
theorem dL_act_156 : decode cL_act 156 = .ok (.iload_n 2, 1) := by decide +kernel
theorem dL_act_157 : decode cL_act 157 = .ok (.bipush 6, 2) := by decide +kernel
theorem dL_act_159 : decode cL_act 159 = .ok (.ishr, 1) := by decide +kernel
theorem dL_act_160 : decode cL_act 160 = .ok (.iconst 3, 1) := by decide +kernel
theorem dL_act_161 : decode cL_act 161 = .ok (.iand, 1) := by decide +kernel
theorem dL_act_162 : decode cL_act 162 = .ok (.ifCond .le 7, 3) := by decide +kernel
theorem dL_act_165 : decode cL_act 165 = .ok (.iconst 1, 1) := by decide +kernel
theorem dL_act_166 : decode cL_act 166 = .ok (.goto 4, 3) := by decide +kernel
theorem dL_act_169 : decode cL_act 169 = .ok (.iconst 0, 1) := by decide +kernel
theorem dL_act_170 : decode cL_act 170 = .ok (.invokevirtual 51, 3) := by decide +kernel
theorem dL_act_173 : decode cL_act 173 = .ok (.ireturn, 1) := by decide +kernel
theorem dL_act_174 : decode cL_act 174 = .ok (.aload_n 0, 1) := by decide +kernel
theorem dL_act_175 : decode cL_act 175 = .ok (.iload_n 2, 1) := by decide +kernel
theorem dL_act_176 : decode cL_act 176 = .ok (.iconst 1, 1) := by decide +kernel
theorem dL_act_177 : decode cL_act 177 = .ok (.iand, 1) := by decide +kernel
theorem dL_act_178 : decode cL_act 178 = .ok (.ifCond .ne 7, 3) := by decide +kernel
theorem dL_act_181 : decode cL_act 181 = .ok (.iconst 1, 1) := by decide +kernel
theorem dL_act_182 : decode cL_act 182 = .ok (.goto 4, 3) := by decide +kernel
theorem dL_act_185 : decode cL_act 185 = .ok (.iconst 0, 1) := by decide +kernel
theorem dL_act_186 : decode cL_act 186 = .ok (.iload_n 3, 1) := by decide +kernel
theorem dL_act_187 : decode cL_act 187 = .ok (.iload_n 2, 1) := by decide +kernel
theorem dL_act_188 : decode cL_act 188 = .ok (.iconst 3, 1) := by decide +kernel
theorem dL_act_189 : decode cL_act 189 = .ok (.ishr, 1) := by decide +kernel
theorem dL_act_190 : decode cL_act 190 = .ok (.iconst 5, 1) := by decide +kernel
theorem dL_act_191 : decode cL_act 191 = .ok (.invokestatic 30, 3) := by decide +kernel
theorem dL_act_194 : decode cL_act 194 = .ok (.invokevirtual 55, 3) := by decide +kernel
theorem dL_act_197 : decode cL_act 197 = .ok (.ireturn, 1) := by decide +kernel
theorem dL_act_198 : decode cL_act 198 = .ok (.aload_n 0, 1) := by decide +kernel
theorem dL_act_199 : decode cL_act 199 = .ok (.invokevirtual 58, 3) := by decide +kernel
theorem dL_act_202 : decode cL_act 202 = .ok (.ireturn, 1) := by decide +kernel
theorem dL_ones_0 : decode cL_ones 0 = .ok (.iconst 0, 1) := by decide +kernel
theorem dL_ones_1 : decode cL_ones 1 = .ok (.istore_n 1, 1) := by decide +kernel
theorem dL_ones_2 : decode cL_ones 2 = .ok (.iload_n 0, 1) := by decide +kernel
theorem dL_ones_3 : decode cL_ones 3 = .ok (.istore_n 2, 1) := by decide +kernel
theorem dL_ones_4 : decode cL_ones 4 = .ok (.iload_n 2, 1) := by decide +kernel
theorem dL_ones_5 : decode cL_ones 5 = .ok (.ifCond .le 15, 3) := by decide +kernel
theorem dL_ones_8 : decode cL_ones 8 = .ok (.iinc 1 1, 3) := by decide +kernel
theorem dL_ones_11 : decode cL_ones 11 = .ok (.iload_n 2, 1) := by decide +kernel
theorem dL_ones_12 : decode cL_ones 12 = .ok (.iload_n 2, 1) := by decide +kernel
theorem dL_ones_13 : decode cL_ones 13 = .ok (.iconst 1, 1) := by decide +kernel
theorem dL_ones_14 : decode cL_ones 14 = .ok (.isub, 1) := by decide +kernel
theorem dL_ones_15 : decode cL_ones 15 = .ok (.iand, 1) := by decide +kernel
theorem dL_ones_16 : decode cL_ones 16 = .ok (.istore_n 2, 1) := by decide +kernel
theorem dL_ones_17 : decode cL_ones 17 = .ok (.goto (-13), 3) := by decide +kernel
theorem dL_ones_20 : decode cL_ones 20 = .ok (.iload_n 1, 1) := by decide +kernel
theorem dL_ones_21 : decode cL_ones 21 = .ok (.ireturn, 1) := by decide +kernel
set_option maxRecDepth 20000 in
theorem ggL_holds_X5_hindered : GoodIn wsL_holds wsX5_hindered := goodIn_r _ [5, 6, 7, 8, 9, 10, 11, 12, 13, 14, 15, 16, 17, 18, 19, 20, 21, 22, 23, 24, 25, 26, 27, 28, 29, 30, 4, 31, 32, 33, 34, 35, 36, 37, 38, 39, 40, 41, 42, 43, 44, 45, 46, 47, 48, 49, 50, 51, 52, 53, 54, 55, 56, 57, 58, 59, 60, 61, 62, 63, 64, 65, 66, 67, 191, 192, 193, 194, 195, 196, 197, 198, 199, 200, 201, 202, 203, 204] (by decide +kernel) (by decide +kernel)
set_option maxRecDepth 20000 in
theorem gL_holds_X5_hindered : GoodIn wsL_holds (wsV RL 61 RX5 yX5_hindered wsX5_hindered) := goodIn_app (goodIn_of _ (by decide +kernel)) ggL_holds_X5_hindered
set_option maxRecDepth 20000 in
theorem ggL_holds_X5_person : GoodIn wsL_holds wsX5_person := goodIn_r _ [71, 7, 72, 58, 4, 59, 73, 74, 75, 23, 76, 29, 77, 78, 79, 80, 81, 82, 83, 84, 25, 26, 27, 28, 30, 31, 85, 86, 87, 21, 22, 24, 32, 33, 34, 35, 36, 37, 38, 39, 40, 41, 42, 43, 88, 89, 90, 91, 92, 93, 94, 95, 191, 192, 193, 194, 195, 196, 197, 198, 204] (by decide +kernel) (by decide +kernel)
set_option maxRecDepth 20000 in
theorem gL_holds_X5_person : GoodIn wsL_holds (wsV RL 26 RX5 yX5_person wsX5_person) := goodIn_app (goodIn_of _ (by decide +kernel)) ggL_holds_X5_person
set_option maxRecDepth 20000 in
theorem ggL_holds_X5_partner : GoodIn wsL_holds wsX5_partner := goodIn_r _ [99, 6, 7, 72, 58, 4, 59, 100, 101, 102, 11, 103, 14, 13, 104, 9, 10, 12, 15, 16, 17, 18, 19, 20, 21, 22, 23, 24, 25, 26, 27, 28, 29, 30, 31, 32, 33, 34, 35, 36, 37, 38, 39, 40, 41, 42, 43, 44, 45, 46, 47, 48, 49, 50, 51, 52, 53, 54, 55, 56, 57, 60, 61, 62, 63, 105, 106, 107, 108, 109, 110, 111, 112, 191, 192, 193, 194, 195, 196, 197, 198, 199, 200, 201, 202, 203, 204] (by decide +kernel) (by decide +kernel)
set_option maxRecDepth 20000 in
theorem gL_holds_X5_partner : GoodIn wsL_holds (wsV RL 64 RX5 yX5_partner wsX5_partner) := goodIn_app (goodIn_of _ (by decide +kernel)) ggL_holds_X5_partner
set_option maxRecDepth 20000 in
theorem ggL_holds_X5_pair : GoodIn wsL_holds wsX5_pair := goodIn_r _ [116, 7, 117, 118, 4, 119, 72, 58, 59, 120, 26, 27, 23, 28, 29, 30, 31, 121, 85, 86, 122, 37, 38, 39, 123, 89, 90, 91, 124, 125, 126, 127, 6, 128, 41, 42, 43, 100, 101, 102, 11, 103, 14, 13, 104, 9, 10, 12, 15, 16, 17, 18, 19, 20, 21, 22, 24, 25, 32, 33, 34, 35, 36, 40, 44, 45, 46, 47, 48, 49, 50, 51, 52, 53, 54, 55, 56, 57, 60, 61, 62, 63, 105, 106, 107, 108, 109, 110, 111, 112, 191, 192, 193, 194, 195, 196, 197, 198, 204, 199, 200, 201, 202, 203] (by decide +kernel) (by decide +kernel)
set_option maxRecDepth 20000 in
theorem gL_holds_X5_pair : GoodIn wsL_holds (wsV RL 18 RX5 yX5_pair wsX5_pair) := goodIn_app (goodIn_of _ (by decide +kernel)) ggL_holds_X5_pair
set_option maxRecDepth 20000 in
theorem ggL_holds_L_ones : GoodIn wsL_holds wsL_ones := goodIn_r _ [132] (by decide +kernel) (by decide +kernel)
set_option maxRecDepth 20000 in
theorem gL_holds_L_ones : GoodIn wsL_holds (va_wsS RL 68 yL_ones wsL_ones) := goodIn_app (goodIn_of _ (by decide +kernel)) ggL_holds_L_ones
set_option maxRecDepth 20000 in
theorem ggL_holds_X5_count : GoodIn wsL_holds wsX5_count := goodIn_r _ [136, 7, 137, 138, 139, 140, 141, 23, 142, 29, 143, 144, 145, 146, 147, 148, 149, 150, 151, 152, 153, 154, 78, 79, 80, 81, 82, 83, 84, 25, 26, 27, 28, 30, 4, 31, 85, 86, 87, 21, 22, 24, 32, 33, 34, 35, 36, 37, 38, 39, 40, 41, 42, 43, 88, 89, 90, 91, 155, 156, 157, 158, 159, 160, 161, 162, 163, 164, 165, 166, 6, 8, 9, 10, 11, 12, 13, 14, 15, 16, 17, 18, 19, 20, 44, 45, 46, 47, 48, 49, 50, 51, 52, 53, 54, 55, 56, 57, 58, 59, 60, 61, 62, 63, 167, 168, 169, 170, 171, 172, 173, 174, 175, 176, 177, 178, 77, 179, 180, 181, 182, 183, 184, 185, 186, 187, 188, 189, 190, 191, 192, 193, 194, 195, 196, 197, 198, 204, 199, 200, 201, 202, 203, 205, 206, 207, 208, 209, 210, 211, 212, 213] (by decide +kernel) (by decide +kernel)
set_option maxRecDepth 20000 in
theorem gL_holds_X5_count : GoodIn wsL_holds (wsV RL 12 RX5 yX5_count wsX5_count) := goodIn_app (goodIn_of _ (by decide +kernel)) ggL_holds_X5_count
theorem dL_holds_0 : decode cL_holds 0 = .ok (.iconst 0, 1) := by decide +kernel
theorem dL_holds_1 : decode cL_holds 1 = .ok (.istore_n 1, 1) := by decide +kernel
theorem dL_holds_2 : decode cL_holds 2 = .ok (.iconst 0, 1) := by decide +kernel
theorem dL_holds_3 : decode cL_holds 3 = .ok (.istore_n 2, 1) := by decide +kernel
theorem dL_holds_4 : decode cL_holds 4 = .ok (.iconst 0, 1) := by decide +kernel
theorem dL_holds_5 : decode cL_holds 5 = .ok (.istore_n 3, 1) := by decide +kernel
theorem dL_holds_6 : decode cL_holds 6 = .ok (.iconst 0, 1) := by decide +kernel
theorem dL_holds_7 : decode cL_holds 7 = .ok (.istore 4, 2) := by decide +kernel
theorem dL_holds_9 : decode cL_holds 9 = .ok (.iconst 0, 1) := by decide +kernel
theorem dL_holds_10 : decode cL_holds 10 = .ok (.istore 5, 2) := by decide +kernel
theorem dL_holds_12 : decode cL_holds 12 = .ok (.iconst 0, 1) := by decide +kernel
theorem dL_holds_13 : decode cL_holds 13 = .ok (.istore 6, 2) := by decide +kernel
theorem dL_holds_15 : decode cL_holds 15 = .ok (.aload_n 0, 1) := by decide +kernel
theorem dL_holds_16 : decode cL_holds 16 = .ok (.invokevirtual 61, 3) := by decide +kernel
theorem dL_holds_19 : decode cL_holds 19 = .ok (.istore 7, 2) := by decide +kernel
theorem dL_holds_21 : decode cL_holds 21 = .ok (.iconst 0, 1) := by decide +kernel
theorem dL_holds_22 : decode cL_holds 22 = .ok (.istore 8, 2) := by decide +kernel
theorem dL_holds_24 : decode cL_holds 24 = .ok (.iconst 0, 1) := by decide +kernel
theorem dL_holds_25 : decode cL_holds 25 = .ok (.istore 9, 2) := by decide +kernel
theorem dL_holds_27 : decode cL_holds 27 = .ok (.iload 9, 2) := by decide +kernel
theorem dL_holds_29 : decode cL_holds 29 = .ok (.bipush 8, 2) := by decide +kernel
theorem dL_holds_31 : decode cL_holds 31 = .ok (.if_icmp .ge 356, 3) := by decide +kernel
theorem dL_holds_34 : decode cL_holds 34 = .ok (.iload_n 1, 1) := by decide +kernel
theorem dL_holds_35 : decode cL_holds 35 = .ok (.aload_n 0, 1) := by decide +kernel
theorem dL_holds_36 : decode cL_holds 36 = .ok (.iconst 1, 1) := by decide +kernel
theorem dL_holds_37 : decode cL_holds 37 = .ok (.iload 9, 2) := by decide +kernel
theorem dL_holds_39 : decode cL_holds 39 = .ok (.iconst 4, 1) := by decide +kernel
theorem dL_holds_40 : decode cL_holds 40 = .ok (.invokevirtual 26, 3) := by decide +kernel
theorem dL_holds_43 : decode cL_holds 43 = .ok (.iadd, 1) := by decide +kernel
theorem dL_holds_44 : decode cL_holds 44 = .ok (.istore_n 1, 1) := by decide +kernel
theorem dL_holds_45 : decode cL_holds 45 = .ok (.iload_n 2, 1) := by decide +kernel
theorem dL_holds_46 : decode cL_holds 46 = .ok (.aload_n 0, 1) := by decide +kernel
theorem dL_holds_47 : decode cL_holds 47 = .ok (.iconst 0, 1) := by decide +kernel
theorem dL_holds_48 : decode cL_holds 48 = .ok (.iload 9, 2) := by decide +kernel
theorem dL_holds_50 : decode cL_holds 50 = .ok (.iconst 4, 1) := by decide +kernel
theorem dL_holds_51 : decode cL_holds 51 = .ok (.invokevirtual 26, 3) := by decide +kernel
theorem dL_holds_54 : decode cL_holds 54 = .ok (.iadd, 1) := by decide +kernel
theorem dL_holds_55 : decode cL_holds 55 = .ok (.istore_n 2, 1) := by decide +kernel
theorem dL_holds_56 : decode cL_holds 56 = .ok (.iload 6, 2) := by decide +kernel
theorem dL_holds_58 : decode cL_holds 58 = .ok (.aload_n 0, 1) := by decide +kernel
theorem dL_holds_59 : decode cL_holds 59 = .ok (.iconst 1, 1) := by decide +kernel
theorem dL_holds_60 : decode cL_holds 60 = .ok (.iload 9, 2) := by decide +kernel
theorem dL_holds_62 : decode cL_holds 62 = .ok (.iconst 2, 1) := by decide +kernel
theorem dL_holds_63 : decode cL_holds 63 = .ok (.invokevirtual 26, 3) := by decide +kernel
theorem dL_holds_66 : decode cL_holds 66 = .ok (.ifCond .le 7, 3) := by decide +kernel
theorem dL_holds_69 : decode cL_holds 69 = .ok (.iconst 1, 1) := by decide +kernel
theorem dL_holds_70 : decode cL_holds 70 = .ok (.goto 4, 3) := by decide +kernel
theorem dL_holds_73 : decode cL_holds 73 = .ok (.iconst 0, 1) := by decide +kernel
theorem dL_holds_74 : decode cL_holds 74 = .ok (.iadd, 1) := by decide +kernel
theorem dL_holds_75 : decode cL_holds 75 = .ok (.istore 6, 2) := by decide +kernel
theorem dL_holds_77 : decode cL_holds 77 = .ok (.aload_n 0, 1) := by decide +kernel
theorem dL_holds_78 : decode cL_holds 78 = .ok (.iconst 1, 1) := by decide +kernel
theorem dL_holds_79 : decode cL_holds 79 = .ok (.iload 9, 2) := by decide +kernel
theorem dL_holds_81 : decode cL_holds 81 = .ok (.iconst 2, 1) := by decide +kernel
theorem dL_holds_82 : decode cL_holds 82 = .ok (.invokevirtual 26, 3) := by decide +kernel
theorem dL_holds_85 : decode cL_holds 85 = .ok (.aload_n 0, 1) := by decide +kernel
theorem dL_holds_86 : decode cL_holds 86 = .ok (.iconst 1, 1) := by decide +kernel
theorem dL_holds_87 : decode cL_holds 87 = .ok (.iload 9, 2) := by decide +kernel
theorem dL_holds_89 : decode cL_holds 89 = .ok (.iconst 1, 1) := by decide +kernel
theorem dL_holds_90 : decode cL_holds 90 = .ok (.invokevirtual 26, 3) := by decide +kernel
theorem dL_holds_93 : decode cL_holds 93 = .ok (.if_icmp .gt 22, 3) := by decide +kernel
theorem dL_holds_96 : decode cL_holds 96 = .ok (.aload_n 0, 1) := by decide +kernel
theorem dL_holds_97 : decode cL_holds 97 = .ok (.iconst 0, 1) := by decide +kernel
theorem dL_holds_98 : decode cL_holds 98 = .ok (.iload 9, 2) := by decide +kernel
theorem dL_holds_100 : decode cL_holds 100 = .ok (.iconst 2, 1) := by decide +kernel
theorem dL_holds_101 : decode cL_holds 101 = .ok (.invokevirtual 26, 3) := by decide +kernel
theorem dL_holds_104 : decode cL_holds 104 = .ok (.aload_n 0, 1) := by decide +kernel
theorem dL_holds_105 : decode cL_holds 105 = .ok (.iconst 0, 1) := by decide +kernel
theorem dL_holds_106 : decode cL_holds 106 = .ok (.iload 9, 2) := by decide +kernel
theorem dL_holds_108 : decode cL_holds 108 = .ok (.iconst 1, 1) := by decide +kernel
theorem dL_holds_109 : decode cL_holds 109 = .ok (.invokevirtual 26, 3) := by decide +kernel
theorem dL_holds_112 : decode cL_holds 112 = .ok (.if_icmp .le 5, 3) := by decide +kernel
theorem dL_holds_115 : decode cL_holds 115 = .ok (.iconst 0, 1) := by decide +kernel
theorem dL_holds_116 : decode cL_holds 116 = .ok (.ireturn, 1) := by decide +kernel
theorem dL_holds_117 : decode cL_holds 117 = .ok (.aload_n 0, 1) := by decide +kernel
theorem dL_holds_118 : decode cL_holds 118 = .ok (.iconst 1, 1) := by decide +kernel
theorem dL_holds_119 : decode cL_holds 119 = .ok (.iload 9, 2) := by decide +kernel
theorem dL_holds_121 : decode cL_holds 121 = .ok (.invokevirtual 64, 3) := by decide +kernel
theorem dL_holds_124 : decode cL_holds 124 = .ok (.istore 10, 2) := by decide +kernel
theorem dL_holds_126 : decode cL_holds 126 = .ok (.iload 10, 2) := by decide +kernel
theorem dL_holds_128 : decode cL_holds 128 = .ok (.ifCond .lt 52, 3) := by decide +kernel
theorem dL_holds_131 : decode cL_holds 131 = .ok (.iinc 3 1, 3) := by decide +kernel
theorem dL_holds_134 : decode cL_holds 134 = .ok (.iload 4, 2) := by decide +kernel
theorem dL_holds_136 : decode cL_holds 136 = .ok (.iload 10, 2) := by decide +kernel
theorem dL_holds_138 : decode cL_holds 138 = .ok (.ishr, 1) := by decide +kernel
theorem dL_holds_139 : decode cL_holds 139 = .ok (.iconst 1, 1) := by decide +kernel
theorem dL_holds_140 : decode cL_holds 140 = .ok (.iand, 1) := by decide +kernel
theorem dL_holds_141 : decode cL_holds 141 = .ok (.iconst 1, 1) := by decide +kernel
theorem dL_holds_142 : decode cL_holds 142 = .ok (.if_icmp .eq 27, 3) := by decide +kernel
theorem dL_holds_145 : decode cL_holds 145 = .ok (.aload_n 0, 1) := by decide +kernel
theorem dL_holds_146 : decode cL_holds 146 = .ok (.iconst 0, 1) := by decide +kernel
theorem dL_holds_147 : decode cL_holds 147 = .ok (.iload 10, 2) := by decide +kernel
theorem dL_holds_149 : decode cL_holds 149 = .ok (.invokevirtual 64, 3) := by decide +kernel
theorem dL_holds_152 : decode cL_holds 152 = .ok (.iload 9, 2) := by decide +kernel
theorem dL_holds_154 : decode cL_holds 154 = .ok (.if_icmp .ne 15, 3) := by decide +kernel
theorem dL_holds_157 : decode cL_holds 157 = .ok (.aload_n 0, 1) := by decide +kernel
theorem dL_holds_158 : decode cL_holds 158 = .ok (.iload 9, 2) := by decide +kernel
theorem dL_holds_160 : decode cL_holds 160 = .ok (.iload 10, 2) := by decide +kernel
theorem dL_holds_162 : decode cL_holds 162 = .ok (.iconst 3, 1) := by decide +kernel
theorem dL_holds_163 : decode cL_holds 163 = .ok (.invokevirtual 18, 3) := by decide +kernel
theorem dL_holds_166 : decode cL_holds 166 = .ok (.ifCond .eq 5, 3) := by decide +kernel
theorem dL_holds_169 : decode cL_holds 169 = .ok (.iconst 0, 1) := by decide +kernel
theorem dL_holds_170 : decode cL_holds 170 = .ok (.ireturn, 1) := by decide +kernel
theorem dL_holds_171 : decode cL_holds 171 = .ok (.iload 4, 2) := by decide +kernel
theorem dL_holds_173 : decode cL_holds 173 = .ok (.iconst 1, 1) := by decide +kernel
theorem dL_holds_174 : decode cL_holds 174 = .ok (.iload 10, 2) := by decide +kernel
theorem dL_holds_176 : decode cL_holds 176 = .ok (.ishl, 1) := by decide +kernel
theorem dL_holds_177 : decode cL_holds 177 = .ok (.ior, 1) := by decide +kernel
theorem dL_holds_178 : decode cL_holds 178 = .ok (.istore 4, 2) := by decide +kernel
theorem dL_holds_180 : decode cL_holds 180 = .ok (.iconst 0, 1) := by decide +kernel
theorem dL_holds_181 : decode cL_holds 181 = .ok (.istore 11, 2) := by decide +kernel
theorem dL_holds_183 : decode cL_holds 183 = .ok (.iload 11, 2) := by decide +kernel
theorem dL_holds_185 : decode cL_holds 185 = .ok (.bipush 8, 2) := by decide +kernel
theorem dL_holds_187 : decode cL_holds 187 = .ok (.if_icmp .ge 194, 3) := by decide +kernel
theorem dL_holds_190 : decode cL_holds 190 = .ok (.aload_n 0, 1) := by decide +kernel
theorem dL_holds_191 : decode cL_holds 191 = .ok (.iload 9, 2) := by decide +kernel
theorem dL_holds_193 : decode cL_holds 193 = .ok (.iload 11, 2) := by decide +kernel
theorem dL_holds_195 : decode cL_holds 195 = .ok (.iconst 3, 1) := by decide +kernel
theorem dL_holds_196 : decode cL_holds 196 = .ok (.invokevirtual 18, 3) := by decide +kernel
theorem dL_holds_199 : decode cL_holds 199 = .ok (.istore 12, 2) := by decide +kernel
theorem dL_holds_201 : decode cL_holds 201 = .ok (.aload_n 0, 1) := by decide +kernel
theorem dL_holds_202 : decode cL_holds 202 = .ok (.iconst 1, 1) := by decide +kernel
theorem dL_holds_203 : decode cL_holds 203 = .ok (.iload 9, 2) := by decide +kernel
theorem dL_holds_205 : decode cL_holds 205 = .ok (.iconst 5, 1) := by decide +kernel
theorem dL_holds_206 : decode cL_holds 206 = .ok (.invokevirtual 26, 3) := by decide +kernel
theorem dL_holds_209 : decode cL_holds 209 = .ok (.iload 11, 2) := by decide +kernel
theorem dL_holds_211 : decode cL_holds 211 = .ok (.ishr, 1) := by decide +kernel
theorem dL_holds_212 : decode cL_holds 212 = .ok (.iconst 1, 1) := by decide +kernel
theorem dL_holds_213 : decode cL_holds 213 = .ok (.iand, 1) := by decide +kernel
theorem dL_holds_214 : decode cL_holds 214 = .ok (.iconst 1, 1) := by decide +kernel
theorem dL_holds_215 : decode cL_holds 215 = .ok (.if_icmp .ne 7, 3) := by decide +kernel
theorem dL_holds_218 : decode cL_holds 218 = .ok (.iconst 1, 1) := by decide +kernel
theorem dL_holds_219 : decode cL_holds 219 = .ok (.goto 4, 3) := by decide +kernel
theorem dL_holds_222 : decode cL_holds 222 = .ok (.iconst 0, 1) := by decide +kernel
theorem dL_holds_223 : decode cL_holds 223 = .ok (.istore 13, 2) := by decide +kernel
theorem dL_holds_225 : decode cL_holds 225 = .ok (.iload 5, 2) := by decide +kernel
theorem dL_holds_227 : decode cL_holds 227 = .ok (.aload_n 0, 1) := by decide +kernel
theorem dL_holds_228 : decode cL_holds 228 = .ok (.iload 9, 2) := by decide +kernel
theorem dL_holds_230 : decode cL_holds 230 = .ok (.iload 11, 2) := by decide +kernel
theorem dL_holds_232 : decode cL_holds 232 = .ok (.iconst 0, 1) := by decide +kernel
theorem dL_holds_233 : decode cL_holds 233 = .ok (.invokevirtual 18, 3) := by decide +kernel
theorem dL_holds_236 : decode cL_holds 236 = .ok (.iadd, 1) := by decide +kernel
theorem dL_holds_237 : decode cL_holds 237 = .ok (.istore 5, 2) := by decide +kernel
theorem dL_holds_239 : decode cL_holds 239 = .ok (.iload 12, 2) := by decide +kernel
theorem dL_holds_241 : decode cL_holds 241 = .ok (.ifCond .ne 7, 3) := by decide +kernel
theorem dL_holds_244 : decode cL_holds 244 = .ok (.iconst 1, 1) := by decide +kernel
theorem dL_holds_245 : decode cL_holds 245 = .ok (.goto 4, 3) := by decide +kernel
theorem dL_holds_248 : decode cL_holds 248 = .ok (.iconst 0, 1) := by decide +kernel
theorem dL_holds_249 : decode cL_holds 249 = .ok (.iload 10, 2) := by decide +kernel
theorem dL_holds_251 : decode cL_holds 251 = .ok (.iload 11, 2) := by decide +kernel
theorem dL_holds_253 : decode cL_holds 253 = .ok (.if_icmp .ne 7, 3) := by decide +kernel
theorem dL_holds_256 : decode cL_holds 256 = .ok (.iconst 1, 1) := by decide +kernel
theorem dL_holds_257 : decode cL_holds 257 = .ok (.goto 4, 3) := by decide +kernel
theorem dL_holds_260 : decode cL_holds 260 = .ok (.iconst 0, 1) := by decide +kernel
theorem dL_holds_261 : decode cL_holds 261 = .ok (.if_icmp .ne 77, 3) := by decide +kernel
theorem dL_holds_264 : decode cL_holds 264 = .ok (.iload 12, 2) := by decide +kernel
theorem dL_holds_266 : decode cL_holds 266 = .ok (.iconst 1, 1) := by decide +kernel
theorem dL_holds_267 : decode cL_holds 267 = .ok (.if_icmp .ne 7, 3) := by decide +kernel
theorem dL_holds_270 : decode cL_holds 270 = .ok (.iconst 1, 1) := by decide +kernel
theorem dL_holds_271 : decode cL_holds 271 = .ok (.goto 4, 3) := by decide +kernel
theorem dL_holds_274 : decode cL_holds 274 = .ok (.iconst 0, 1) := by decide +kernel
theorem dL_holds_275 : decode cL_holds 275 = .ok (.aload_n 0, 1) := by decide +kernel
theorem dL_holds_276 : decode cL_holds 276 = .ok (.iload 9, 2) := by decide +kernel
theorem dL_holds_278 : decode cL_holds 278 = .ok (.iload 11, 2) := by decide +kernel
theorem dL_holds_280 : decode cL_holds 280 = .ok (.iconst 0, 1) := by decide +kernel
theorem dL_holds_281 : decode cL_holds 281 = .ok (.invokevirtual 18, 3) := by decide +kernel
theorem dL_holds_284 : decode cL_holds 284 = .ok (.ifCond .ne 7, 3) := by decide +kernel
theorem dL_holds_287 : decode cL_holds 287 = .ok (.iconst 1, 1) := by decide +kernel
theorem dL_holds_288 : decode cL_holds 288 = .ok (.goto 4, 3) := by decide +kernel
theorem dL_holds_291 : decode cL_holds 291 = .ok (.iconst 0, 1) := by decide +kernel
theorem dL_holds_292 : decode cL_holds 292 = .ok (.if_icmp .ne 46, 3) := by decide +kernel
theorem dL_holds_295 : decode cL_holds 295 = .ok (.iload 12, 2) := by decide +kernel
theorem dL_holds_297 : decode cL_holds 297 = .ok (.ifCond .eq 9, 3) := by decide +kernel
theorem dL_holds_300 : decode cL_holds 300 = .ok (.iload 12, 2) := by decide +kernel
theorem dL_holds_302 : decode cL_holds 302 = .ok (.iconst 4, 1) := by decide +kernel
theorem dL_holds_303 : decode cL_holds 303 = .ok (.if_icmp .ne 8, 3) := by decide +kernel
theorem dL_holds_306 : decode cL_holds 306 = .ok (.iload 13, 2) := by decide +kernel
theorem dL_holds_308 : decode cL_holds 308 = .ok (.ifCond .eq 30, 3) := by decide +kernel
theorem dL_holds_311 : decode cL_holds 311 = .ok (.iload 13, 2) := by decide +kernel
theorem dL_holds_313 : decode cL_holds 313 = .ok (.aload_n 0, 1) := by decide +kernel
theorem dL_holds_314 : decode cL_holds 314 = .ok (.iconst 0, 1) := by decide +kernel
theorem dL_holds_315 : decode cL_holds 315 = .ok (.iload 11, 2) := by decide +kernel
theorem dL_holds_317 : decode cL_holds 317 = .ok (.iconst 5, 1) := by decide +kernel
theorem dL_holds_318 : decode cL_holds 318 = .ok (.invokevirtual 26, 3) := by decide +kernel
theorem dL_holds_321 : decode cL_holds 321 = .ok (.iload 9, 2) := by decide +kernel
theorem dL_holds_323 : decode cL_holds 323 = .ok (.ishr, 1) := by decide +kernel
theorem dL_holds_324 : decode cL_holds 324 = .ok (.iconst 1, 1) := by decide +kernel
theorem dL_holds_325 : decode cL_holds 325 = .ok (.iand, 1) := by decide +kernel
theorem dL_holds_326 : decode cL_holds 326 = .ok (.iconst 1, 1) := by decide +kernel
theorem dL_holds_327 : decode cL_holds 327 = .ok (.if_icmp .ne 7, 3) := by decide +kernel
theorem dL_holds_330 : decode cL_holds 330 = .ok (.iconst 1, 1) := by decide +kernel
theorem dL_holds_331 : decode cL_holds 331 = .ok (.goto 4, 3) := by decide +kernel
theorem dL_holds_334 : decode cL_holds 334 = .ok (.iconst 0, 1) := by decide +kernel
theorem dL_holds_335 : decode cL_holds 335 = .ok (.if_icmp .eq 5, 3) := by decide +kernel
theorem dL_holds_338 : decode cL_holds 338 = .ok (.iconst 0, 1) := by decide +kernel
theorem dL_holds_339 : decode cL_holds 339 = .ok (.ireturn, 1) := by decide +kernel
theorem dL_holds_340 : decode cL_holds 340 = .ok (.iload 8, 2) := by decide +kernel
theorem dL_holds_342 : decode cL_holds 342 = .ok (.iload 7, 2) := by decide +kernel
theorem dL_holds_344 : decode cL_holds 344 = .ok (.iload 9, 2) := by decide +kernel
theorem dL_holds_346 : decode cL_holds 346 = .ok (.ishr, 1) := by decide +kernel
theorem dL_holds_347 : decode cL_holds 347 = .ok (.iconst 1, 1) := by decide +kernel
theorem dL_holds_348 : decode cL_holds 348 = .ok (.iand, 1) := by decide +kernel
theorem dL_holds_349 : decode cL_holds 349 = .ok (.iconst 1, 1) := by decide +kernel
theorem dL_holds_350 : decode cL_holds 350 = .ok (.if_icmp .ne 21, 3) := by decide +kernel
theorem dL_holds_353 : decode cL_holds 353 = .ok (.iload 12, 2) := by decide +kernel
theorem dL_holds_355 : decode cL_holds 355 = .ok (.iconst 1, 1) := by decide +kernel
theorem dL_holds_356 : decode cL_holds 356 = .ok (.if_icmp .eq 15, 3) := by decide +kernel
theorem dL_holds_359 : decode cL_holds 359 = .ok (.iload 13, 2) := by decide +kernel
theorem dL_holds_361 : decode cL_holds 361 = .ok (.ifCond .eq 10, 3) := by decide +kernel
theorem dL_holds_364 : decode cL_holds 364 = .ok (.iconst 1, 1) := by decide +kernel
theorem dL_holds_365 : decode cL_holds 365 = .ok (.iload 11, 2) := by decide +kernel
theorem dL_holds_367 : decode cL_holds 367 = .ok (.ishl, 1) := by decide +kernel
theorem dL_holds_368 : decode cL_holds 368 = .ok (.goto 4, 3) := by decide +kernel
theorem dL_holds_371 : decode cL_holds 371 = .ok (.iconst 0, 1) := by decide +kernel
theorem dL_holds_372 : decode cL_holds 372 = .ok (.ior, 1) := by decide +kernel
theorem dL_holds_373 : decode cL_holds 373 = .ok (.istore 8, 2) := by decide +kernel
theorem dL_holds_375 : decode cL_holds 375 = .ok (.iinc 11 1, 3) := by decide +kernel
theorem dL_holds_378 : decode cL_holds 378 = .ok (.goto (-195), 3) := by decide +kernel
theorem dL_holds_381 : decode cL_holds 381 = .ok (.iinc 9 1, 3) := by decide +kernel
theorem dL_holds_384 : decode cL_holds 384 = .ok (.goto (-357), 3) := by decide +kernel
theorem dL_holds_387 : decode cL_holds 387 = .ok (.iload 7, 2) := by decide +kernel
theorem dL_holds_389 : decode cL_holds 389 = .ok (.ifCond .eq 16, 3) := by decide +kernel
theorem dL_holds_392 : decode cL_holds 392 = .ok (.iload 8, 2) := by decide +kernel
theorem dL_holds_394 : decode cL_holds 394 = .ok (.invokestatic 68, 3) := by decide +kernel
theorem dL_holds_397 : decode cL_holds 397 = .ok (.iload 7, 2) := by decide +kernel
theorem dL_holds_399 : decode cL_holds 399 = .ok (.invokestatic 68, 3) := by decide +kernel
theorem dL_holds_402 : decode cL_holds 402 = .ok (.if_icmp .ge 7, 3) := by decide +kernel
theorem dL_holds_405 : decode cL_holds 405 = .ok (.iconst 1, 1) := by decide +kernel
theorem dL_holds_406 : decode cL_holds 406 = .ok (.goto 4, 3) := by decide +kernel
theorem dL_holds_409 : decode cL_holds 409 = .ok (.iconst 0, 1) := by decide +kernel
theorem dL_holds_410 : decode cL_holds 410 = .ok (.istore 9, 2) := by decide +kernel
theorem dL_holds_412 : decode cL_holds 412 = .ok (.iload 9, 2) := by decide +kernel
theorem dL_holds_414 : decode cL_holds 414 = .ok (.ifCond .eq 71, 3) := by decide +kernel
theorem dL_holds_417 : decode cL_holds 417 = .ok (.iload_n 1, 1) := by decide +kernel
theorem dL_holds_418 : decode cL_holds 418 = .ok (.aload_n 0, 1) := by decide +kernel
theorem dL_holds_419 : decode cL_holds 419 = .ok (.iconst 5, 1) := by decide +kernel
theorem dL_holds_420 : decode cL_holds 420 = .ok (.invokevirtual 12, 3) := by decide +kernel
theorem dL_holds_423 : decode cL_holds 423 = .ok (.if_icmp .ne 62, 3) := by decide +kernel
theorem dL_holds_426 : decode cL_holds 426 = .ok (.iload_n 2, 1) := by decide +kernel
theorem dL_holds_427 : decode cL_holds 427 = .ok (.iload_n 1, 1) := by decide +kernel
theorem dL_holds_428 : decode cL_holds 428 = .ok (.if_icmp .ne 57, 3) := by decide +kernel
theorem dL_holds_431 : decode cL_holds 431 = .ok (.iload_n 3, 1) := by decide +kernel
theorem dL_holds_432 : decode cL_holds 432 = .ok (.aload_n 0, 1) := by decide +kernel
theorem dL_holds_433 : decode cL_holds 433 = .ok (.bipush 6, 2) := by decide +kernel
theorem dL_holds_435 : decode cL_holds 435 = .ok (.invokevirtual 12, 3) := by decide +kernel
theorem dL_holds_438 : decode cL_holds 438 = .ok (.if_icmp .ne 47, 3) := by decide +kernel
theorem dL_holds_441 : decode cL_holds 441 = .ok (.iload 5, 2) := by decide +kernel
theorem dL_holds_443 : decode cL_holds 443 = .ok (.aload_n 0, 1) := by decide +kernel
theorem dL_holds_444 : decode cL_holds 444 = .ok (.iconst 0, 1) := by decide +kernel
theorem dL_holds_445 : decode cL_holds 445 = .ok (.invokevirtual 12, 3) := by decide +kernel
theorem dL_holds_448 : decode cL_holds 448 = .ok (.if_icmp .ne 37, 3) := by decide +kernel
theorem dL_holds_451 : decode cL_holds 451 = .ok (.iload_n 3, 1) := by decide +kernel
theorem dL_holds_452 : decode cL_holds 452 = .ok (.iload 6, 2) := by decide +kernel
theorem dL_holds_454 : decode cL_holds 454 = .ok (.if_icmp .ne 7, 3) := by decide +kernel
theorem dL_holds_457 : decode cL_holds 457 = .ok (.iconst 1, 1) := by decide +kernel
theorem dL_holds_458 : decode cL_holds 458 = .ok (.goto 4, 3) := by decide +kernel
theorem dL_holds_461 : decode cL_holds 461 = .ok (.iconst 0, 1) := by decide +kernel
theorem dL_holds_462 : decode cL_holds 462 = .ok (.iload 7, 2) := by decide +kernel
theorem dL_holds_464 : decode cL_holds 464 = .ok (.ifCond .ne 7, 3) := by decide +kernel
theorem dL_holds_467 : decode cL_holds 467 = .ok (.iconst 1, 1) := by decide +kernel
theorem dL_holds_468 : decode cL_holds 468 = .ok (.goto 4, 3) := by decide +kernel
theorem dL_holds_471 : decode cL_holds 471 = .ok (.iconst 0, 1) := by decide +kernel
theorem dL_holds_472 : decode cL_holds 472 = .ok (.if_icmp .ne 13, 3) := by decide +kernel
theorem dL_holds_475 : decode cL_holds 475 = .ok (.iload_n 3, 1) := by decide +kernel
theorem dL_holds_476 : decode cL_holds 476 = .ok (.iload 6, 2) := by decide +kernel
theorem dL_holds_478 : decode cL_holds 478 = .ok (.if_icmp .gt 7, 3) := by decide +kernel
theorem dL_holds_481 : decode cL_holds 481 = .ok (.iconst 1, 1) := by decide +kernel
theorem dL_holds_482 : decode cL_holds 482 = .ok (.goto 4, 3) := by decide +kernel
theorem dL_holds_485 : decode cL_holds 485 = .ok (.iconst 0, 1) := by decide +kernel
theorem dL_holds_486 : decode cL_holds 486 = .ok (.ireturn, 1) := by decide +kernel
set_option maxRecDepth 20000 in
theorem ggL_isRound_X5_count : GoodIn wsL_isRound wsX5_count := goodIn_r _ [5, 6, 7, 8, 9, 10, 11, 12, 13, 14, 15, 16, 17, 18, 19, 20, 21, 22, 23, 24, 25, 26, 27, 28, 29, 30, 31, 32, 33, 34, 35, 36, 37, 38, 4, 39, 40, 41, 42, 43, 44, 45, 46, 47, 48, 49, 50, 51, 52, 53, 54, 55, 56, 57, 58, 59, 60, 61, 62, 63, 64, 65, 66, 67, 68, 69, 70, 71, 72, 73, 74, 75, 76, 77, 78, 79, 80, 81, 82, 83, 84, 85, 86, 87, 88, 89, 90, 91, 92, 93, 94, 95, 96, 97, 98, 99, 100, 101, 102, 103, 104, 105, 106, 107, 108, 109, 110, 111, 112, 113, 114, 115, 116, 117, 118, 119, 120, 121, 122, 123, 124, 125, 126, 127, 128, 129, 130, 131, 132, 234, 235, 236, 237, 238, 239, 240, 241, 242, 243, 244, 245, 246, 247, 248, 249, 250, 251, 252, 253, 254, 255, 256] (by decide +kernel) (by decide +kernel)
set_option maxRecDepth 20000 in
theorem gL_isRound_X5_count : GoodIn wsL_isRound (wsV RL 12 RX5 yX5_count wsX5_count) := goodIn_app (goodIn_of _ (by decide +kernel)) ggL_isRound_X5_count
set_option maxRecDepth 20000 in
theorem ggL_isRound_X5_pair : GoodIn wsL_isRound wsX5_pair := goodIn_r _ [136, 6, 137, 138, 4, 139, 140, 102, 103, 141, 35, 36, 12, 37, 14, 38, 39, 142, 40, 41, 143, 51, 52, 53, 144, 59, 60, 61, 145, 146, 147, 148, 74, 149, 55, 56, 57, 150, 151, 152, 78, 153, 81, 80, 154, 76, 77, 79, 82, 83, 84, 85, 86, 87, 43, 44, 45, 34, 46, 47, 48, 49, 50, 54, 88, 89, 90, 91, 92, 93, 94, 95, 96, 97, 98, 99, 100, 101, 104, 105, 106, 107, 155, 156, 157, 158, 159, 160, 161, 162, 234, 235, 236, 237, 238, 239, 240, 241, 242, 243, 244, 245, 246, 247] (by decide +kernel) (by decide +kernel)
set_option maxRecDepth 20000 in
theorem gL_isRound_X5_pair : GoodIn wsL_isRound (wsV RL 18 RX5 yX5_pair wsX5_pair) := goodIn_app (goodIn_of _ (by decide +kernel)) ggL_isRound_X5_pair
set_option maxRecDepth 20000 in
theorem ggL_isRound_L_told : GoodIn wsL_isRound wsL_told := goodIn_r _ [166, 167, 168, 1, 2, 3, 4, 5, 6, 7, 8, 9, 10, 11, 12, 13, 14, 15, 16, 17, 18, 19, 20, 21, 22, 23, 24, 25, 26, 27, 28, 29, 30, 31, 32, 33, 34, 35, 36, 37, 38, 39, 40, 41, 42, 43, 44, 45, 46, 47, 48, 49, 50, 51, 52, 53, 54, 55, 56, 57, 58, 59, 60, 61, 62, 63, 64, 65, 66, 67, 68, 69, 70, 71, 72, 73, 74, 75, 76, 77, 78, 79, 80, 81, 82, 83, 84, 85, 86, 87, 88, 89, 90, 91, 92, 93, 94, 95, 96, 97, 98, 99, 100, 101, 102, 103, 104, 105, 106, 107, 108, 109, 110, 111, 112, 113, 114, 115, 116, 117, 118, 119, 120, 121, 122, 123, 124, 125, 126, 127, 128, 129, 130, 131, 132, 133, 134, 135, 136, 137, 138, 139, 140, 141, 142, 143, 144, 145, 146, 147, 148, 149, 150, 151, 152, 153, 154, 155, 156, 157, 158, 159, 160, 161, 162, 169, 170, 171, 172, 173, 174, 175, 176, 177, 178, 179, 180, 181, 182, 183, 184, 185, 186, 187, 188, 189, 190, 191, 234, 235, 236, 237, 238, 239, 240, 241, 242, 243, 244, 245, 246, 247, 248, 249, 250, 251, 252, 253, 254, 255, 256] (by decide +kernel) (by decide +kernel)
set_option maxRecDepth 20000 in
theorem gL_isRound_L_told : GoodIn wsL_isRound (va_wsS RL 71 yL_told wsL_told) := goodIn_app (goodIn_of _ (by decide +kernel)) ggL_isRound_L_told
set_option maxRecDepth 20000 in
theorem ggL_isRound_X5_round : GoodIn wsL_isRound wsX5_round := goodIn_r _ [195, 7, 6, 196, 197, 198, 124, 199, 126, 200, 201, 202, 203, 204, 205, 206, 207, 208, 209, 210, 211, 212, 4, 213, 74, 150, 151, 152, 78, 153, 81, 80, 154, 76, 77, 79, 82, 83, 84, 85, 86, 87, 43, 44, 12, 45, 34, 35, 36, 37, 14, 38, 39, 46, 47, 48, 49, 50, 51, 52, 53, 54, 55, 56, 57, 88, 89, 90, 91, 92, 93, 94, 95, 96, 97, 98, 99, 100, 101, 102, 103, 104, 105, 106, 107, 155, 156, 157, 158, 159, 160, 161, 162, 140, 214, 215, 216, 217, 218, 219, 220, 221, 222, 223, 224, 225, 108, 109, 110, 111, 40, 41, 234, 235, 236, 237, 238, 239, 240, 241, 248, 249, 250, 242, 243, 244, 245, 246, 247] (by decide +kernel) (by decide +kernel)
set_option maxRecDepth 20000 in
theorem gL_isRound_X5_round : GoodIn wsL_isRound (wsV RL 58 RX5 yX5_round wsX5_round) := goodIn_app (goodIn_of _ (by decide +kernel)) ggL_isRound_X5_round
set_option maxRecDepth 20000 in
theorem ggL_isRound_X5_undo : GoodIn wsL_isRound wsX5_undo := goodIn_r _ [229, 7, 6, 121, 122, 123, 124, 125, 126, 230, 231, 232, 233, 201, 202, 203, 204, 205, 206, 207, 208, 209, 200, 234, 235, 236, 237, 238, 239, 240, 241, 248, 249, 250, 242] (by decide +kernel) (by decide +kernel)
set_option maxRecDepth 20000 in
theorem gL_isRound_X5_undo : GoodIn wsL_isRound (wsV RL 75 RX5 yX5_undo wsX5_undo) := goodIn_app (goodIn_of _ (by decide +kernel)) ggL_isRound_X5_undo
theorem dL_isRound_0 : decode cL_isRound 0 = .ok (.aload_n 0, 1) := by decide +kernel
theorem dL_isRound_1 : decode cL_isRound 1 = .ok (.bipush 6, 2) := by decide +kernel
theorem dL_isRound_3 : decode cL_isRound 3 = .ok (.invokevirtual 12, 3) := by decide +kernel
theorem dL_isRound_6 : decode cL_isRound 6 = .ok (.istore_n 3, 1) := by decide +kernel
theorem dL_isRound_7 : decode cL_isRound 7 = .ok (.aload_n 0, 1) := by decide +kernel
theorem dL_isRound_8 : decode cL_isRound 8 = .ok (.iconst 0, 1) := by decide +kernel
theorem dL_isRound_9 : decode cL_isRound 9 = .ok (.invokevirtual 12, 3) := by decide +kernel
theorem dL_isRound_12 : decode cL_isRound 12 = .ok (.istore 4, 2) := by decide +kernel
