theorem dL_isRound_14 : decode cL_isRound 14 = .ok (.aload_n 0, 1) := by decide +kernel
theorem dL_isRound_15 : decode cL_isRound 15 = .ok (.iconst 5, 1) := by decide +kernel
theorem dL_isRound_16 : decode cL_isRound 16 = .ok (.invokevirtual 12, 3) := by decide +kernel
theorem dL_isRound_19 : decode cL_isRound 19 = .ok (.istore 5, 2) := by decide +kernel
theorem dL_isRound_21 : decode cL_isRound 21 = .ok (.aload_n 0, 1) := by decide +kernel
theorem dL_isRound_22 : decode cL_isRound 22 = .ok (.iload_n 1, 1) := by decide +kernel
theorem dL_isRound_23 : decode cL_isRound 23 = .ok (.iload_n 2, 1) := by decide +kernel
theorem dL_isRound_24 : decode cL_isRound 24 = .ok (.iconst 1, 1) := by decide +kernel
theorem dL_isRound_25 : decode cL_isRound 25 = .ok (.invokevirtual 18, 3) := by decide +kernel
theorem dL_isRound_28 : decode cL_isRound 28 = .ok (.istore 6, 2) := by decide +kernel
theorem dL_isRound_30 : decode cL_isRound 30 = .ok (.aload_n 0, 1) := by decide +kernel
theorem dL_isRound_31 : decode cL_isRound 31 = .ok (.invokestatic 71, 3) := by decide +kernel
theorem dL_isRound_34 : decode cL_isRound 34 = .ok (.lstore 7, 2) := by decide +kernel
theorem dL_isRound_36 : decode cL_isRound 36 = .ok (.aload_n 0, 1) := by decide +kernel
theorem dL_isRound_37 : decode cL_isRound 37 = .ok (.invokevirtual 58, 3) := by decide +kernel
theorem dL_isRound_40 : decode cL_isRound 40 = .ok (.iload_n 3, 1) := by decide +kernel
theorem dL_isRound_41 : decode cL_isRound 41 = .ok (.if_icmp .ne 54, 3) := by decide +kernel
theorem dL_isRound_44 : decode cL_isRound 44 = .ok (.aload_n 0, 1) := by decide +kernel
theorem dL_isRound_45 : decode cL_isRound 45 = .ok (.iconst 0, 1) := by decide +kernel
theorem dL_isRound_46 : decode cL_isRound 46 = .ok (.invokevirtual 12, 3) := by decide +kernel
theorem dL_isRound_49 : decode cL_isRound 49 = .ok (.iload 4, 2) := by decide +kernel
theorem dL_isRound_51 : decode cL_isRound 51 = .ok (.iload_n 3, 1) := by decide +kernel
theorem dL_isRound_52 : decode cL_isRound 52 = .ok (.isub, 1) := by decide +kernel
theorem dL_isRound_53 : decode cL_isRound 53 = .ok (.if_icmp .ne 42, 3) := by decide +kernel
theorem dL_isRound_56 : decode cL_isRound 56 = .ok (.aload_n 0, 1) := by decide +kernel
theorem dL_isRound_57 : decode cL_isRound 57 = .ok (.iconst 5, 1) := by decide +kernel
theorem dL_isRound_58 : decode cL_isRound 58 = .ok (.invokevirtual 12, 3) := by decide +kernel
theorem dL_isRound_61 : decode cL_isRound 61 = .ok (.iload 5, 2) := by decide +kernel
theorem dL_isRound_63 : decode cL_isRound 63 = .ok (.iload_n 3, 1) := by decide +kernel
theorem dL_isRound_64 : decode cL_isRound 64 = .ok (.iadd, 1) := by decide +kernel
theorem dL_isRound_65 : decode cL_isRound 65 = .ok (.if_icmp .ne 30, 3) := by decide +kernel
theorem dL_isRound_68 : decode cL_isRound 68 = .ok (.aload_n 0, 1) := by decide +kernel
theorem dL_isRound_69 : decode cL_isRound 69 = .ok (.iload_n 1, 1) := by decide +kernel
theorem dL_isRound_70 : decode cL_isRound 70 = .ok (.iload_n 2, 1) := by decide +kernel
theorem dL_isRound_71 : decode cL_isRound 71 = .ok (.iconst 1, 1) := by decide +kernel
theorem dL_isRound_72 : decode cL_isRound 72 = .ok (.invokevirtual 18, 3) := by decide +kernel
theorem dL_isRound_75 : decode cL_isRound 75 = .ok (.iload 6, 2) := by decide +kernel
theorem dL_isRound_77 : decode cL_isRound 77 = .ok (.ifCond .le 10, 3) := by decide +kernel
theorem dL_isRound_80 : decode cL_isRound 80 = .ok (.iload 6, 2) := by decide +kernel
theorem dL_isRound_82 : decode cL_isRound 82 = .ok (.iconst 1, 1) := by decide +kernel
theorem dL_isRound_83 : decode cL_isRound 83 = .ok (.isub, 1) := by decide +kernel
theorem dL_isRound_84 : decode cL_isRound 84 = .ok (.goto 4, 3) := by decide +kernel
theorem dL_isRound_87 : decode cL_isRound 87 = .ok (.iconst 0, 1) := by decide +kernel
theorem dL_isRound_88 : decode cL_isRound 88 = .ok (.if_icmp .ne 7, 3) := by decide +kernel
theorem dL_isRound_91 : decode cL_isRound 91 = .ok (.iconst 1, 1) := by decide +kernel
theorem dL_isRound_92 : decode cL_isRound 92 = .ok (.goto 4, 3) := by decide +kernel
theorem dL_isRound_95 : decode cL_isRound 95 = .ok (.iconst 0, 1) := by decide +kernel
theorem dL_isRound_96 : decode cL_isRound 96 = .ok (.istore 9, 2) := by decide +kernel
theorem dL_isRound_98 : decode cL_isRound 98 = .ok (.iload 9, 2) := by decide +kernel
theorem dL_isRound_100 : decode cL_isRound 100 = .ok (.ifCond .eq 24, 3) := by decide +kernel
theorem dL_isRound_103 : decode cL_isRound 103 = .ok (.aload_n 0, 1) := by decide +kernel
theorem dL_isRound_104 : decode cL_isRound 104 = .ok (.invokevirtual 75, 3) := by decide +kernel
theorem dL_isRound_107 : decode cL_isRound 107 = .ok (.ifCond .lt 17, 3) := by decide +kernel
theorem dL_isRound_110 : decode cL_isRound 110 = .ok (.aload_n 0, 1) := by decide +kernel
theorem dL_isRound_111 : decode cL_isRound 111 = .ok (.invokestatic 71, 3) := by decide +kernel
theorem dL_isRound_114 : decode cL_isRound 114 = .ok (.lload 7, 2) := by decide +kernel
theorem dL_isRound_116 : decode cL_isRound 116 = .ok (.lcmp, 1) := by decide +kernel
theorem dL_isRound_117 : decode cL_isRound 117 = .ok (.ifCond .ne 7, 3) := by decide +kernel
theorem dL_isRound_120 : decode cL_isRound 120 = .ok (.iconst 1, 1) := by decide +kernel
theorem dL_isRound_121 : decode cL_isRound 121 = .ok (.goto 4, 3) := by decide +kernel
theorem dL_isRound_124 : decode cL_isRound 124 = .ok (.iconst 0, 1) := by decide +kernel
theorem dL_isRound_125 : decode cL_isRound 125 = .ok (.ireturn, 1) := by decide +kernel
set_option maxRecDepth 20000 in
theorem ggL_law_X5_init : GoodIn wsL_law wsX5_init := goodIn_r _ [5, 6, 7, 8, 9, 10, 11, 12, 13, 14, 15, 16, 17, 18, 19, 20, 21, 22, 23, 24, 25, 26, 27, 28, 29, 30, 31, 32, 33, 34, 35, 36, 37, 38, 39, 40, 41, 42, 43, 44, 45, 46, 47, 48, 49, 50, 51, 52, 53, 54, 55, 56, 57, 58, 386, 378, 379, 380, 381, 382, 383, 384, 385, 387, 388, 389, 390, 391, 392, 393, 394, 395, 396, 397, 398, 399, 400, 401] (by decide +kernel) (by decide +kernel)
set_option maxRecDepth 20000 in
theorem gL_law_X5_init : GoodIn wsL_law (wsX5_init) := ggL_law_X5_init
set_option maxRecDepth 20000 in
theorem ggL_law_X5_undo : GoodIn wsL_law wsX5_undo := goodIn_r _ [62, 18, 12, 63, 64, 65, 17, 66, 67, 68, 69, 70, 71, 41, 72, 73, 74, 75, 76, 77, 78, 79, 80, 378, 379, 380, 381, 382, 383, 384, 385, 387, 388, 389, 386] (by decide +kernel) (by decide +kernel)
set_option maxRecDepth 20000 in
theorem gL_law_X5_undo : GoodIn wsL_law (wsV RL 75 RX5 yX5_undo wsX5_undo) := goodIn_app (goodIn_of _ (by decide +kernel)) ggL_law_X5_undo
set_option maxRecDepth 20000 in
theorem ggL_law_X5_restore : GoodIn wsL_law wsX5_restore := goodIn_r _ [84, 31, 18, 12, 14, 85, 86, 87, 17, 88, 67, 80, 41, 72, 73, 74, 75, 76, 77, 78, 79, 89, 90, 91, 11, 92, 37, 93, 94, 95, 96, 97, 98, 99, 100, 101, 102, 103, 104, 378, 379, 380, 381, 382, 383, 384, 385, 387, 388, 389, 386] (by decide +kernel) (by decide +kernel)
set_option maxRecDepth 20000 in
theorem gL_law_X5_restore : GoodIn wsL_law (wsV RL 47 RX5 yX5_restore wsX5_restore) := goodIn_app (goodIn_of _ (by decide +kernel)) ggL_law_X5_restore
set_option maxRecDepth 20000 in
theorem ggL_law_X5_doneIn : GoodIn wsL_law wsX5_doneIn := goodIn_r _ [108, 12, 13, 109, 110, 111, 11, 112, 113, 114, 115, 116, 37, 117, 2, 118, 119, 120, 121, 122, 89, 90, 91, 92, 93, 73, 74, 75, 94, 95, 96, 97, 98, 99, 100, 101, 102, 103, 104, 123, 124, 125, 126, 26, 127, 128, 129, 25, 130, 52, 51, 131, 132, 133, 134, 53, 135, 136, 137, 138, 139, 140, 141, 142, 143, 144, 145, 146, 147, 148, 149, 150, 151, 152, 153, 154, 54, 155, 156, 157, 158, 159, 160, 161, 162, 163, 164, 165, 166, 167, 168, 169, 170, 171, 172, 173, 174, 175, 176, 177, 178, 179, 180, 181, 182, 183, 184, 185, 186, 187, 188, 189, 190, 191, 192, 193, 194, 195, 196, 378, 379, 380, 381, 382, 383, 384, 385, 386, 396, 397, 398, 399, 400] (by decide +kernel) (by decide +kernel)
set_option maxRecDepth 20000 in
theorem gL_law_X5_doneIn : GoodIn wsL_law (wsV RL 79 RX5 yX5_doneIn wsX5_doneIn) := goodIn_app (goodIn_of _ (by decide +kernel)) ggL_law_X5_doneIn
set_option maxRecDepth 20000 in
theorem ggL_law_X5_mean : GoodIn wsL_law wsX5_mean := goodIn_r _ [200, 12, 201, 202, 203, 11, 204, 37, 205, 206, 207, 208, 209, 210, 211, 212, 213, 214, 215, 216, 113, 114, 115, 116, 117, 2, 118, 195, 196, 217, 140, 141, 142, 143, 144, 145, 146, 147, 148, 149, 150, 119, 120, 121, 122, 218, 219, 220, 221, 378, 379, 380, 381, 382, 383, 384, 385, 386] (by decide +kernel) (by decide +kernel)
set_option maxRecDepth 20000 in
theorem gL_law_X5_mean : GoodIn wsL_law (wsV RL 82 RX5 yX5_mean wsX5_mean) := goodIn_app (goodIn_of _ (by decide +kernel)) ggL_law_X5_mean
set_option maxRecDepth 20000 in
theorem ggL_law_X5_save : GoodIn wsL_law wsX5_save := goodIn_r _ [225, 14, 12, 31, 89, 90, 91, 11, 92, 37, 93, 73, 74, 75, 94, 95, 96, 97, 98, 99, 100, 101, 102, 103, 104, 378, 379, 380, 381, 382, 383, 384, 385, 386] (by decide +kernel) (by decide +kernel)
set_option maxRecDepth 20000 in
theorem gL_law_X5_save : GoodIn wsL_law (wsV RL 86 RX5 yX5_save wsX5_save) := goodIn_app (goodIn_of _ (by decide +kernel)) ggL_law_X5_save
set_option maxRecDepth 20000 in
theorem ggL_law_L_cell : GoodIn wsL_law wsL_cell := goodIn_r _ [229] (by decide +kernel) (by decide +kernel)
set_option maxRecDepth 20000 in
theorem gL_law_L_cell : GoodIn wsL_law (va_wsS RL 89 yL_cell wsL_cell) := goodIn_app (goodIn_of _ (by decide +kernel)) ggL_law_L_cell
