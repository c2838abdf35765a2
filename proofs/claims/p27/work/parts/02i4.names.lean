
theorem gi_app {big a b : List Cond} (h1 : GoodIn big a) (h2 : GoodIn big b) : GoodIn big (a ++ b) := fun w h => (List.mem_append.mp h).elim (h1 w) (h2 w)
theorem gi_cons {big a : List Cond} {w0 : Cond} (h1 : GoodIn big [w0]) (h2 : GoodIn big a) : GoodIn big (w0 :: a) := fun w h => (List.mem_cons.mp h).elim (fun e => h1 w (by rw [e]; exact List.mem_singleton.mpr rfl)) (h2 w)
theorem gi_L_holds_h : GoodIn wsL_law [.code yL_holds cL_holds 14 (some .boolean)] := goodIn_r _ [359] (by decide +kernel) (by decide +kernel)
set_option maxRecDepth 20000 in
theorem gi_L_holds_wsL_holds_r1 : GoodIn wsL_law wsL_holds_r1 := goodIn_r _ [360, 361, 362, 2, 363, 26, 12, 247, 132, 133, 25, 134, 51, 52, 53, 135, 136, 137, 138, 139, 140, 141, 11, 142] (by decide +kernel) (by decide +kernel)
set_option maxRecDepth 20000 in
theorem gi_L_holds_wsL_holds_r2 : GoodIn wsL_law wsL_holds_r2 := goodIn_r _ [113, 114, 115, 116, 37, 117, 118, 143, 144, 145, 146, 147, 148, 149, 150, 119, 120, 121, 122, 151, 152, 153, 154, 54] (by decide +kernel) (by decide +kernel)
set_option maxRecDepth 20000 in
theorem gi_L_holds_wsL_holds_r3 : GoodIn wsL_law wsL_holds_r3 := goodIn_r _ [155, 156, 157, 158, 159, 160, 161, 162, 163, 164, 165, 166, 167, 168, 169, 364, 365, 366, 367, 289, 290, 291, 292, 178] (by decide +kernel) (by decide +kernel)
set_option maxRecDepth 20000 in
theorem gi_L_holds_wsL_holds_r4 : GoodIn wsL_law wsL_holds_r4 := goodIn_r _ [293, 294, 295, 296, 256, 210, 211, 212, 213, 214, 215, 216, 195, 196, 217, 218, 219, 220, 221, 297, 298, 299, 300, 368] (by decide +kernel) (by decide +kernel)
set_option maxRecDepth 20000 in
theorem gi_L_holds_wsL_holds_r5 : GoodIn wsL_law wsL_holds_r5 := goodIn_r _ [369, 370, 371, 127, 128, 129, 130, 131, 170, 171, 172, 173, 174, 175, 176, 177, 262, 263, 264, 265, 266, 267, 268, 269] (by decide +kernel) (by decide +kernel)
set_option maxRecDepth 20000 in
theorem gi_L_holds_wsL_holds_r6 : GoodIn wsL_law wsL_holds_r6 := goodIn_r _ [270, 271, 272, 273, 274, 275, 276, 277, 372, 373, 228, 374, 235, 236, 237, 238, 18, 22, 94, 95, 96, 97, 98, 99] (by decide +kernel) (by decide +kernel)
set_option maxRecDepth 20000 in
theorem gi_L_holds_wsL_holds_r7 : GoodIn wsL_law wsL_holds_r7 := goodIn_r _ [100, 101, 102, 103, 104, 205, 206, 207, 208, 209, 239, 240, 241, 242, 201, 202, 203, 204, 243, 244, 245, 246, 191, 192] (by decide +kernel) (by decide +kernel)
set_option maxRecDepth 20000 in
theorem gi_L_holds_wsL_holds_r8 : GoodIn wsL_law wsL_holds_r8 := goodIn_r _ [193, 194, 248, 249, 250, 251, 252, 253, 254, 255, 63, 64, 65, 17, 66, 67, 257, 258, 259, 21, 260, 261] (by decide +kernel) (by decide +kernel)
set_option maxRecDepth 20000 in
theorem gi_L_holds_wsX50 : GoodIn wsL_law wsX50 := goodIn_r _ [378, 379, 380, 381, 382, 383, 384, 385] (by decide +kernel) (by decide +kernel)
set_option maxRecDepth 20000 in
theorem gi_L_holds_wsX20 : GoodIn wsL_law wsX20 := goodIn_r _ [396, 397, 398, 399, 400] (by decide +kernel) (by decide +kernel)
set_option maxRecDepth 20000 in
theorem gi_L_holds_wsX00 : GoodIn wsL_law wsX00 := goodIn_r _ [386] (by decide +kernel) (by decide +kernel)
set_option maxRecDepth 20000 in
theorem gi_L_holds_wsX10 : GoodIn wsL_law wsX10 := goodIn_r _ [387, 388, 389] (by decide +kernel) (by decide +kernel)
set_option maxRecDepth 20000 in
theorem gi_L_holds_wsX40 : GoodIn wsL_law wsX40 := goodIn_r _ [390, 391, 392, 393, 394, 395] (by decide +kernel) (by decide +kernel)
theorem ggL_law_L_holds : GoodIn wsL_law wsL_holds := gi_cons gi_L_holds_h (gi_app (gi_app (gi_app (gi_app (gi_app (gi_app gi_L_holds_wsL_holds_r1 (gi_app gi_L_holds_wsL_holds_r2 (gi_app gi_L_holds_wsL_holds_r3 (gi_app gi_L_holds_wsL_holds_r4 (gi_app gi_L_holds_wsL_holds_r5 (gi_app gi_L_holds_wsL_holds_r6 (gi_app gi_L_holds_wsL_holds_r7 gi_L_holds_wsL_holds_r8))))))) gi_L_holds_wsX50) gi_L_holds_wsX20) gi_L_holds_wsX00) gi_L_holds_wsX10) gi_L_holds_wsX40)
set_option maxRecDepth 20000 in
theorem gL_law_L_holds : GoodIn wsL_law (va_wsS RL 97 yL_holds wsL_holds) := goodIn_app (goodIn_of _ (by decide +kernel)) ggL_law_L_holds
