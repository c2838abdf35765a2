
theorem gi_L_isRound_h : GoodIn wsL_law [.code yL_isRound cL_isRound 10 (some .boolean)] := goodIn_r _ [377] (by decide +kernel) (by decide +kernel)
set_option maxRecDepth 20000 in
theorem gi_L_isRound_wsL_isRound_r1 : GoodIn wsL_law wsL_isRound_r1 := goodIn_r _ [235, 236, 237, 2, 238, 12, 18, 22, 94, 95, 96, 11, 97, 37, 98, 99, 100, 101, 102, 103, 104, 205, 206, 207] (by decide +kernel) (by decide +kernel)
set_option maxRecDepth 20000 in
theorem gi_L_isRound_wsL_isRound_r2 : GoodIn wsL_law wsL_isRound_r2 := goodIn_r _ [208, 209, 210, 211, 212, 213, 214, 215, 216, 113, 114, 115, 116, 117, 118, 195, 196, 217, 140, 141, 142, 143, 144, 145] (by decide +kernel) (by decide +kernel)
set_option maxRecDepth 20000 in
theorem gi_L_isRound_wsL_isRound_r3 : GoodIn wsL_law wsL_isRound_r3 := goodIn_r _ [146, 147, 148, 149, 150, 119, 120, 121, 122, 218, 219, 220, 221, 239, 240, 241, 242, 201, 202, 203, 204, 243, 244, 245] (by decide +kernel) (by decide +kernel)
set_option maxRecDepth 20000 in
theorem gi_L_isRound_wsL_isRound_r4 : GoodIn wsL_law wsL_isRound_r4 := goodIn_r _ [246, 26, 247, 132, 133, 25, 134, 51, 52, 53, 135, 136, 137, 138, 139, 151, 152, 153, 154, 54, 155, 156, 157, 158] (by decide +kernel) (by decide +kernel)
set_option maxRecDepth 20000 in
theorem gi_L_isRound_wsL_isRound_r5 : GoodIn wsL_law wsL_isRound_r5 := goodIn_r _ [159, 160, 161, 162, 163, 164, 165, 166, 167, 168, 169, 191, 192, 193, 194, 248, 249, 250, 251, 252, 253, 254, 255, 256] (by decide +kernel) (by decide +kernel)
set_option maxRecDepth 20000 in
theorem gi_L_isRound_wsL_isRound_r6 : GoodIn wsL_law wsL_isRound_r6 := goodIn_r _ [63, 64, 65, 17, 66, 67, 257, 258, 259, 21, 260, 261, 262, 263, 264, 265, 266, 267, 268, 178, 269, 270, 271, 272] (by decide +kernel) (by decide +kernel)
set_option maxRecDepth 20000 in
theorem gi_L_isRound_wsL_isRound_r7 : GoodIn wsL_law wsL_isRound_r7 := goodIn_r _ [273, 274, 275, 276, 277, 127, 128, 129, 130, 131, 170, 171, 172, 173, 174, 175, 176, 177, 230, 231, 228, 232, 233, 234] (by decide +kernel) (by decide +kernel)
set_option maxRecDepth 20000 in
theorem gi_L_isRound_wsL_isRound_r8 : GoodIn wsL_law wsL_isRound_r8 := goodIn_r _ [278, 279, 280, 281, 282, 283, 284, 285, 286, 287, 288, 289, 290, 291, 292, 293, 294, 295, 296, 297, 298, 299, 300, 353] (by decide +kernel) (by decide +kernel)
set_option maxRecDepth 20000 in
theorem gi_L_isRound_wsL_isRound_r9 : GoodIn wsL_law wsL_isRound_r9 := goodIn_r _ [354, 355, 356, 85, 86, 87, 88, 80, 41, 72, 73, 74, 75, 76, 77, 78, 79, 123, 124, 125, 126, 179, 180, 181] (by decide +kernel) (by decide +kernel)
set_option maxRecDepth 20000 in
theorem gi_L_isRound_wsL_isRound_r10 : GoodIn wsL_law wsL_isRound_r10 := goodIn_r _ [182, 183, 184, 185, 186, 187, 188, 189, 190, 59, 60, 61, 62, 68, 69, 70, 71] (by decide +kernel) (by decide +kernel)
set_option maxRecDepth 20000 in
theorem gi_L_isRound_wsX50 : GoodIn wsL_law wsX50 := goodIn_r _ [378, 379, 380, 381, 382, 383, 384, 385] (by decide +kernel) (by decide +kernel)
set_option maxRecDepth 20000 in
theorem gi_L_isRound_wsX00 : GoodIn wsL_law wsX00 := goodIn_r _ [386] (by decide +kernel) (by decide +kernel)
set_option maxRecDepth 20000 in
theorem gi_L_isRound_wsX20 : GoodIn wsL_law wsX20 := goodIn_r _ [396, 397, 398, 399, 400] (by decide +kernel) (by decide +kernel)
set_option maxRecDepth 20000 in
theorem gi_L_isRound_wsX10 : GoodIn wsL_law wsX10 := goodIn_r _ [387, 388, 389] (by decide +kernel) (by decide +kernel)
set_option maxRecDepth 20000 in
theorem gi_L_isRound_wsX40 : GoodIn wsL_law wsX40 := goodIn_r _ [390, 391, 392, 393, 394, 395] (by decide +kernel) (by decide +kernel)
theorem ggL_law_L_isRound : GoodIn wsL_law wsL_isRound := gi_cons gi_L_isRound_h (gi_app (gi_app (gi_app (gi_app (gi_app (gi_app gi_L_isRound_wsL_isRound_r1 (gi_app gi_L_isRound_wsL_isRound_r2 (gi_app gi_L_isRound_wsL_isRound_r3 (gi_app gi_L_isRound_wsL_isRound_r4 (gi_app gi_L_isRound_wsL_isRound_r5 (gi_app gi_L_isRound_wsL_isRound_r6 (gi_app gi_L_isRound_wsL_isRound_r7 (gi_app gi_L_isRound_wsL_isRound_r8 (gi_app gi_L_isRound_wsL_isRound_r9 gi_L_isRound_wsL_isRound_r10))))))))) gi_L_isRound_wsX50) gi_L_isRound_wsX00) gi_L_isRound_wsX20) gi_L_isRound_wsX10) gi_L_isRound_wsX40)
set_option maxRecDepth 20000 in
theorem gL_law_L_isRound : GoodIn wsL_law (va_wsS RL 101 yL_isRound wsL_isRound) := goodIn_app (goodIn_of _ (by decide +kernel)) ggL_law_L_isRound
