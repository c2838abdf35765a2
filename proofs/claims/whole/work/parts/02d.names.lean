theorem dX2_findFreeRight_134 : decode cX2_findFreeRight 134 = .ok (.ishl, 1) := by decide +kernel
theorem dX2_findFreeRight_135 : decode cX2_findFreeRight 135 = .ok (.ior, 1) := by decide +kernel
theorem dX2_findFreeRight_136 : decode cX2_findFreeRight 136 = .ok (.istore_n 3, 1) := by decide +kernel
theorem dX2_findFreeRight_137 : decode cX2_findFreeRight 137 = .ok (.aload_n 0, 1) := by decide +kernel
theorem dX2_findFreeRight_138 : decode cX2_findFreeRight 138 = .ok (.dup, 1) := by decide +kernel
theorem dX2_findFreeRight_139 : decode cX2_findFreeRight 139 = .ok (.getfield 62, 3) := by decide +kernel
theorem dX2_findFreeRight_142 : decode cX2_findFreeRight 142 = .ok (.iconst 1, 1) := by decide +kernel
theorem dX2_findFreeRight_143 : decode cX2_findFreeRight 143 = .ok (.aload_n 0, 1) := by decide +kernel
theorem dX2_findFreeRight_144 : decode cX2_findFreeRight 144 = .ok (.getfield 18, 3) := by decide +kernel
theorem dX2_findFreeRight_147 : decode cX2_findFreeRight 147 = .ok (.iload 7, 2) := by decide +kernel
theorem dX2_findFreeRight_149 : decode cX2_findFreeRight 149 = .ok (.iaload, 1) := by decide +kernel
theorem dX2_findFreeRight_150 : decode cX2_findFreeRight 150 = .ok (.ishl, 1) := by decide +kernel
theorem dX2_findFreeRight_151 : decode cX2_findFreeRight 151 = .ok (.ior, 1) := by decide +kernel
theorem dX2_findFreeRight_152 : decode cX2_findFreeRight 152 = .ok (.putfield 62, 3) := by decide +kernel
theorem dX2_findFreeRight_155 : decode cX2_findFreeRight 155 = .ok (.iinc 7 1, 3) := by decide +kernel
theorem dX2_findFreeRight_158 : decode cX2_findFreeRight 158 = .ok (.goto (-96), 3) := by decide +kernel
theorem dX2_findFreeRight_161 : decode cX2_findFreeRight 161 = .ok (.iinc 6 1, 3) := by decide +kernel
theorem dX2_findFreeRight_164 : decode cX2_findFreeRight 164 = .ok (.goto (-133), 3) := by decide +kernel
theorem dX2_findFreeRight_167 : decode cX2_findFreeRight 167 = .ok (.iinc 5 1, 3) := by decide +kernel
theorem dX2_findFreeRight_170 : decode cX2_findFreeRight 170 = .ok (.goto (-153), 3) := by decide +kernel
theorem dX2_findFreeRight_173 : decode cX2_findFreeRight 173 = .ok (.bipush (-5), 2) := by decide +kernel
theorem dX2_findFreeRight_175 : decode cX2_findFreeRight 175 = .ok (.ireturn, 1) := by decide +kernel
theorem dX2_leftsWithoutPartner_0 : decode cX2_leftsWithoutPartner 0 = .ok (.iconst 0, 1) := by decide +kernel
theorem dX2_leftsWithoutPartner_1 : decode cX2_leftsWithoutPartner 1 = .ok (.istore_n 2, 1) := by decide +kernel
theorem dX2_leftsWithoutPartner_2 : decode cX2_leftsWithoutPartner 2 = .ok (.iload_n 1, 1) := by decide +kernel
theorem dX2_leftsWithoutPartner_3 : decode cX2_leftsWithoutPartner 3 = .ok (.istore_n 3, 1) := by decide +kernel
theorem dX2_leftsWithoutPartner_4 : decode cX2_leftsWithoutPartner 4 = .ok (.iload_n 3, 1) := by decide +kernel
theorem dX2_leftsWithoutPartner_5 : decode cX2_leftsWithoutPartner 5 = .ok (.bipush 8, 2) := by decide +kernel
theorem dX2_leftsWithoutPartner_7 : decode cX2_leftsWithoutPartner 7 = .ok (.if_icmp .ge 26, 3) := by decide +kernel
theorem dX2_leftsWithoutPartner_10 : decode cX2_leftsWithoutPartner 10 = .ok (.aload_n 0, 1) := by decide +kernel
theorem dX2_leftsWithoutPartner_11 : decode cX2_leftsWithoutPartner 11 = .ok (.getfield 15, 3) := by decide +kernel
theorem dX2_leftsWithoutPartner_14 : decode cX2_leftsWithoutPartner 14 = .ok (.iload_n 3, 1) := by decide +kernel
theorem dX2_leftsWithoutPartner_15 : decode cX2_leftsWithoutPartner 15 = .ok (.iaload, 1) := by decide +kernel
theorem dX2_leftsWithoutPartner_16 : decode cX2_leftsWithoutPartner 16 = .ok (.bipush (-5), 2) := by decide +kernel
theorem dX2_leftsWithoutPartner_18 : decode cX2_leftsWithoutPartner 18 = .ok (.if_icmp .ne 9, 3) := by decide +kernel
theorem dX2_leftsWithoutPartner_21 : decode cX2_leftsWithoutPartner 21 = .ok (.iload_n 2, 1) := by decide +kernel
theorem dX2_leftsWithoutPartner_22 : decode cX2_leftsWithoutPartner 22 = .ok (.iconst 1, 1) := by decide +kernel
theorem dX2_leftsWithoutPartner_23 : decode cX2_leftsWithoutPartner 23 = .ok (.iload_n 3, 1) := by decide +kernel
theorem dX2_leftsWithoutPartner_24 : decode cX2_leftsWithoutPartner 24 = .ok (.ishl, 1) := by decide +kernel
theorem dX2_leftsWithoutPartner_25 : decode cX2_leftsWithoutPartner 25 = .ok (.ior, 1) := by decide +kernel
theorem dX2_leftsWithoutPartner_26 : decode cX2_leftsWithoutPartner 26 = .ok (.istore_n 2, 1) := by decide +kernel
theorem dX2_leftsWithoutPartner_27 : decode cX2_leftsWithoutPartner 27 = .ok (.iinc 3 1, 3) := by decide +kernel
theorem dX2_leftsWithoutPartner_30 : decode cX2_leftsWithoutPartner 30 = .ok (.goto (-26), 3) := by decide +kernel
theorem dX2_leftsWithoutPartner_33 : decode cX2_leftsWithoutPartner 33 = .ok (.iload_n 2, 1) := by decide +kernel
theorem dX2_leftsWithoutPartner_34 : decode cX2_leftsWithoutPartner 34 = .ok (.ireturn, 1) := by decide +kernel
theorem dX3_init_0 : decode cX3_init 0 = .ok (.aload_n 0, 1) := by decide +kernel
theorem dX3_init_1 : decode cX3_init 1 = .ok (.invokespecial 3, 3) := by decide +kernel
theorem dX3_init_4 : decode cX3_init 4 = .ok (.aload_n 0, 1) := by decide +kernel
theorem dX3_init_5 : decode cX3_init 5 = .ok (.bipush 64, 2) := by decide +kernel
theorem dX3_init_7 : decode cX3_init 7 = .ok (.newarray .int, 2) := by decide +kernel
theorem dX3_init_9 : decode cX3_init 9 = .ok (.putfield 9, 3) := by decide +kernel
theorem dX3_init_12 : decode cX3_init 12 = .ok (.return_, 1) := by decide +kernel
theorem dX3_numberOf_0 : decode cX3_numberOf 0 = .ok (.aload_n 0, 1) := by decide +kernel
theorem dX3_numberOf_1 : decode cX3_numberOf 1 = .ok (.getfield 9, 3) := by decide +kernel
theorem dX3_numberOf_4 : decode cX3_numberOf 4 = .ok (.bipush 8, 2) := by decide +kernel
theorem dX3_numberOf_6 : decode cX3_numberOf 6 = .ok (.iload_n 1, 1) := by decide +kernel
theorem dX3_numberOf_7 : decode cX3_numberOf 7 = .ok (.imul, 1) := by decide +kernel
theorem dX3_numberOf_8 : decode cX3_numberOf 8 = .ok (.iload_n 2, 1) := by decide +kernel
theorem dX3_numberOf_9 : decode cX3_numberOf 9 = .ok (.iadd, 1) := by decide +kernel
theorem dX3_numberOf_10 : decode cX3_numberOf 10 = .ok (.iaload, 1) := by decide +kernel
theorem dX3_numberOf_11 : decode cX3_numberOf 11 = .ok (.ireturn, 1) := by decide +kernel
set_option maxRecDepth 20000 in
theorem ggX3_make_J7_fill_53178 : GoodIn wsX3_make wsJ7_fill_53178 := goodIn_r _ [5] (by decide +kernel) (by decide +kernel)
set_option maxRecDepth 20000 in
theorem gX3_make_J7_fill_53178 : GoodIn wsX3_make (va_wsS RX3 15 yJ7_fill_53178 wsJ7_fill_53178) := goodIn_app (goodIn_of _ (by decide +kernel)) ggX3_make_J7_fill_53178
set_option maxRecDepth 20000 in
theorem ggX3_make_X0_isPossible : GoodIn wsX3_make wsX0_isPossible := goodIn_r _ [10, 11, 12, 13, 9, 14, 15, 16, 17, 18, 19, 20, 21, 22, 23, 24, 25, 26, 27, 28, 29, 30, 63] (by decide +kernel) (by decide +kernel)
set_option maxRecDepth 20000 in
theorem gX3_make_X0_isPossible : GoodIn wsX3_make (wsV RX3 21 RX0 yX0_isPossible wsX0_isPossible) := goodIn_app (goodIn_of _ (by decide +kernel)) ggX3_make_X0_isPossible
set_option maxRecDepth 20000 in
theorem ggX3_make_X3_addWish : GoodIn wsX3_make wsX3_addWish := goodIn_r _ [35, 36, 37, 38, 34, 39, 40, 41, 42, 43, 1, 16, 17, 18, 44, 45, 46, 47, 48, 49, 50, 51, 52, 53, 54, 55, 56, 57, 58, 59, 60, 61, 62] (by decide +kernel) (by decide +kernel)
set_option maxRecDepth 20000 in
theorem gX3_make_X3_addWish : GoodIn wsX3_make (wsV RX3 27 RX3 yX3_addWish wsX3_addWish) := goodIn_app (goodIn_of _ (by decide +kernel)) ggX3_make_X3_addWish
theorem dX3_make_0 : decode cX3_make 0 = .ok (.aload_n 0, 1) := by decide +kernel
theorem dX3_make_1 : decode cX3_make 1 = .ok (.getfield 9, 3) := by decide +kernel
theorem dX3_make_4 : decode cX3_make 4 = .ok (.bipush (-5), 2) := by decide +kernel
theorem dX3_make_6 : decode cX3_make 6 = .ok (.invokestatic 15, 3) := by decide +kernel
theorem dX3_make_9 : decode cX3_make 9 = .ok (.iconst 0, 1) := by decide +kernel
theorem dX3_make_10 : decode cX3_make 10 = .ok (.istore_n 2, 1) := by decide +kernel
theorem dX3_make_11 : decode cX3_make 11 = .ok (.iload_n 2, 1) := by decide +kernel
theorem dX3_make_12 : decode cX3_make 12 = .ok (.bipush 8, 2) := by decide +kernel
theorem dX3_make_14 : decode cX3_make 14 = .ok (.if_icmp .ge 38, 3) := by decide +kernel
theorem dX3_make_17 : decode cX3_make 17 = .ok (.iconst 0, 1) := by decide +kernel
theorem dX3_make_18 : decode cX3_make 18 = .ok (.istore_n 3, 1) := by decide +kernel
theorem dX3_make_19 : decode cX3_make 19 = .ok (.iload_n 3, 1) := by decide +kernel
theorem dX3_make_20 : decode cX3_make 20 = .ok (.bipush 8, 2) := by decide +kernel
theorem dX3_make_22 : decode cX3_make 22 = .ok (.if_icmp .ge 24, 3) := by decide +kernel
theorem dX3_make_25 : decode cX3_make 25 = .ok (.aload_n 1, 1) := by decide +kernel
theorem dX3_make_26 : decode cX3_make 26 = .ok (.iload_n 2, 1) := by decide +kernel
theorem dX3_make_27 : decode cX3_make 27 = .ok (.iload_n 3, 1) := by decide +kernel
theorem dX3_make_28 : decode cX3_make 28 = .ok (.invokevirtual 21, 3) := by decide +kernel
theorem dX3_make_31 : decode cX3_make 31 = .ok (.ifCond .eq 9, 3) := by decide +kernel
theorem dX3_make_34 : decode cX3_make 34 = .ok (.aload_n 0, 1) := by decide +kernel
theorem dX3_make_35 : decode cX3_make 35 = .ok (.iload_n 2, 1) := by decide +kernel
theorem dX3_make_36 : decode cX3_make 36 = .ok (.iload_n 3, 1) := by decide +kernel
theorem dX3_make_37 : decode cX3_make 37 = .ok (.invokevirtual 27, 3) := by decide +kernel
theorem dX3_make_40 : decode cX3_make 40 = .ok (.iinc 3 1, 3) := by decide +kernel
theorem dX3_make_43 : decode cX3_make 43 = .ok (.goto (-24), 3) := by decide +kernel
theorem dX3_make_46 : decode cX3_make 46 = .ok (.iinc 2 1, 3) := by decide +kernel
theorem dX3_make_49 : decode cX3_make 49 = .ok (.goto (-38), 3) := by decide +kernel
theorem dX3_make_52 : decode cX3_make 52 = .ok (.return_, 1) := by decide +kernel
set_option maxRecDepth 20000 in
theorem ggX3_addWish_X3_leastNumberWithout : GoodIn wsX3_addWish wsX3_leastNumberWithout := goodIn_r _ [5, 6, 7, 8, 4, 9, 10, 11, 12, 13, 32] (by decide +kernel) (by decide +kernel)
set_option maxRecDepth 20000 in
theorem gX3_addWish_X3_leastNumberWithout : GoodIn wsX3_addWish (wsV RX3 31 RX3 yX3_leastNumberWithout wsX3_leastNumberWithout) := goodIn_app (goodIn_of _ (by decide +kernel)) ggX3_addWish_X3_leastNumberWithout
set_option maxRecDepth 20000 in
theorem ggX3_addWish_X3_leftWith : GoodIn wsX3_addWish wsX3_leftWith := goodIn_r _ [17, 6, 7, 8, 4, 9, 10, 32] (by decide +kernel) (by decide +kernel)
set_option maxRecDepth 20000 in
theorem gX3_addWish_X3_leftWith : GoodIn wsX3_addWish (wsV RX3 35 RX3 yX3_leftWith wsX3_leftWith) := goodIn_app (goodIn_of _ (by decide +kernel)) ggX3_addWish_X3_leftWith
set_option maxRecDepth 20000 in
theorem ggX3_addWish_X3_exchangeAlongPath : GoodIn wsX3_addWish wsX3_exchangeAlongPath := goodIn_r _ [21, 14, 15, 16, 4, 17, 6, 7, 8, 9, 10, 22, 12, 23, 24, 25, 26, 27, 28, 29, 30, 31, 32] (by decide +kernel) (by decide +kernel)
set_option maxRecDepth 20000 in
theorem gX3_addWish_X3_exchangeAlongPath : GoodIn wsX3_addWish (wsV RX3 39 RX3 yX3_exchangeAlongPath wsX3_exchangeAlongPath) := goodIn_app (goodIn_of _ (by decide +kernel)) ggX3_addWish_X3_exchangeAlongPath
set_option maxRecDepth 20000 in
theorem ggX3_addWish_X3_setNumber : GoodIn wsX3_addWish wsX3_setNumber := goodIn_r _ [31, 10, 32] (by decide +kernel) (by decide +kernel)
set_option maxRecDepth 20000 in
theorem gX3_addWish_X3_setNumber : GoodIn wsX3_addWish (wsV RX3 43 RX3 yX3_setNumber wsX3_setNumber) := goodIn_app (goodIn_of _ (by decide +kernel)) ggX3_addWish_X3_setNumber
theorem dX3_addWish_0 : decode cX3_addWish 0 = .ok (.aload_n 0, 1) := by decide +kernel
theorem dX3_addWish_1 : decode cX3_addWish 1 = .ok (.iconst 1, 1) := by decide +kernel
theorem dX3_addWish_2 : decode cX3_addWish 2 = .ok (.iload_n 1, 1) := by decide +kernel
theorem dX3_addWish_3 : decode cX3_addWish 3 = .ok (.invokevirtual 31, 3) := by decide +kernel
theorem dX3_addWish_6 : decode cX3_addWish 6 = .ok (.istore_n 3, 1) := by decide +kernel
theorem dX3_addWish_7 : decode cX3_addWish 7 = .ok (.aload_n 0, 1) := by decide +kernel
theorem dX3_addWish_8 : decode cX3_addWish 8 = .ok (.iconst 0, 1) := by decide +kernel
theorem dX3_addWish_9 : decode cX3_addWish 9 = .ok (.iload_n 2, 1) := by decide +kernel
theorem dX3_addWish_10 : decode cX3_addWish 10 = .ok (.invokevirtual 31, 3) := by decide +kernel
theorem dX3_addWish_13 : decode cX3_addWish 13 = .ok (.istore 4, 2) := by decide +kernel
theorem dX3_addWish_15 : decode cX3_addWish 15 = .ok (.aload_n 0, 1) := by decide +kernel
theorem dX3_addWish_16 : decode cX3_addWish 16 = .ok (.iload_n 2, 1) := by decide +kernel
theorem dX3_addWish_17 : decode cX3_addWish 17 = .ok (.iload_n 3, 1) := by decide +kernel
theorem dX3_addWish_18 : decode cX3_addWish 18 = .ok (.invokevirtual 35, 3) := by decide +kernel
theorem dX3_addWish_21 : decode cX3_addWish 21 = .ok (.bipush (-5), 2) := by decide +kernel
theorem dX3_addWish_23 : decode cX3_addWish 23 = .ok (.if_icmp .eq 11, 3) := by decide +kernel
theorem dX3_addWish_26 : decode cX3_addWish 26 = .ok (.aload_n 0, 1) := by decide +kernel
theorem dX3_addWish_27 : decode cX3_addWish 27 = .ok (.iload_n 2, 1) := by decide +kernel
theorem dX3_addWish_28 : decode cX3_addWish 28 = .ok (.iload_n 3, 1) := by decide +kernel
theorem dX3_addWish_29 : decode cX3_addWish 29 = .ok (.iload 4, 2) := by decide +kernel
theorem dX3_addWish_31 : decode cX3_addWish 31 = .ok (.invokevirtual 39, 3) := by decide +kernel
theorem dX3_addWish_34 : decode cX3_addWish 34 = .ok (.aload_n 0, 1) := by decide +kernel
theorem dX3_addWish_35 : decode cX3_addWish 35 = .ok (.iload_n 1, 1) := by decide +kernel
theorem dX3_addWish_36 : decode cX3_addWish 36 = .ok (.iload_n 2, 1) := by decide +kernel
theorem dX3_addWish_37 : decode cX3_addWish 37 = .ok (.iload_n 3, 1) := by decide +kernel
theorem dX3_addWish_38 : decode cX3_addWish 38 = .ok (.invokevirtual 43, 3) := by decide +kernel
theorem dX3_addWish_41 : decode cX3_addWish 41 = .ok (.return_, 1) := by decide +kernel
theorem dX3_setNumber_0 : decode cX3_setNumber 0 = .ok (.aload_n 0, 1) := by decide +kernel
theorem dX3_setNumber_1 : decode cX3_setNumber 1 = .ok (.getfield 9, 3) := by decide +kernel
theorem dX3_setNumber_4 : decode cX3_setNumber 4 = .ok (.bipush 8, 2) := by decide +kernel
theorem dX3_setNumber_6 : decode cX3_setNumber 6 = .ok (.iload_n 1, 1) := by decide +kernel
theorem dX3_setNumber_7 : decode cX3_setNumber 7 = .ok (.imul, 1) := by decide +kernel
theorem dX3_setNumber_8 : decode cX3_setNumber 8 = .ok (.iload_n 2, 1) := by decide +kernel
theorem dX3_setNumber_9 : decode cX3_setNumber 9 = .ok (.iadd, 1) := by decide +kernel
theorem dX3_setNumber_10 : decode cX3_setNumber 10 = .ok (.iload_n 3, 1) := by decide +kernel
theorem dX3_setNumber_11 : decode cX3_setNumber 11 = .ok (.iastore, 1) := by decide +kernel
theorem dX3_setNumber_12 : decode cX3_setNumber 12 = .ok (.return_, 1) := by decide +kernel
set_option maxRecDepth 20000 in
theorem ggX3_leastNumberWithout_X3_numberOf : GoodIn wsX3_leastNumberWithout wsX3_numberOf := goodIn_r _ [5, 6, 10] (by decide +kernel) (by decide +kernel)
set_option maxRecDepth 20000 in
theorem gX3_leastNumberWithout_X3_numberOf : GoodIn wsX3_leastNumberWithout (wsV RX3 46 RX3 yX3_numberOf wsX3_numberOf) := goodIn_app (goodIn_of _ (by decide +kernel)) ggX3_leastNumberWithout_X3_numberOf
set_option maxRecDepth 20000 in
theorem ggX3_leastNumberWithout_X5_hasBit : GoodIn wsX3_leastNumberWithout wsX5_hasBit := goodIn_r _ [9] (by decide +kernel) (by decide +kernel)
set_option maxRecDepth 20000 in
theorem gX3_leastNumberWithout_X5_hasBit_n49 : GoodIn wsX3_leastNumberWithout (wsX5_hasBit) := ggX3_leastNumberWithout_X5_hasBit
theorem dX3_leastNumberWithout_0 : decode cX3_leastNumberWithout 0 = .ok (.iconst 0, 1) := by decide +kernel
theorem dX3_leastNumberWithout_1 : decode cX3_leastNumberWithout 1 = .ok (.istore_n 3, 1) := by decide +kernel
theorem dX3_leastNumberWithout_2 : decode cX3_leastNumberWithout 2 = .ok (.iconst 0, 1) := by decide +kernel
theorem dX3_leastNumberWithout_3 : decode cX3_leastNumberWithout 3 = .ok (.istore 4, 2) := by decide +kernel
theorem dX3_leastNumberWithout_5 : decode cX3_leastNumberWithout 5 = .ok (.iload 4, 2) := by decide +kernel
theorem dX3_leastNumberWithout_7 : decode cX3_leastNumberWithout 7 = .ok (.bipush 8, 2) := by decide +kernel
theorem dX3_leastNumberWithout_9 : decode cX3_leastNumberWithout 9 = .ok (.if_icmp .ge 46, 3) := by decide +kernel
theorem dX3_leastNumberWithout_12 : decode cX3_leastNumberWithout 12 = .ok (.iload_n 1, 1) := by decide +kernel
theorem dX3_leastNumberWithout_13 : decode cX3_leastNumberWithout 13 = .ok (.ifCond .eq 13, 3) := by decide +kernel
theorem dX3_leastNumberWithout_16 : decode cX3_leastNumberWithout 16 = .ok (.aload_n 0, 1) := by decide +kernel
theorem dX3_leastNumberWithout_17 : decode cX3_leastNumberWithout 17 = .ok (.iload_n 2, 1) := by decide +kernel
theorem dX3_leastNumberWithout_18 : decode cX3_leastNumberWithout 18 = .ok (.iload 4, 2) := by decide +kernel
theorem dX3_leastNumberWithout_20 : decode cX3_leastNumberWithout 20 = .ok (.invokevirtual 46, 3) := by decide +kernel
theorem dX3_leastNumberWithout_23 : decode cX3_leastNumberWithout 23 = .ok (.goto 10, 3) := by decide +kernel
theorem dX3_leastNumberWithout_26 : decode cX3_leastNumberWithout 26 = .ok (.aload_n 0, 1) := by decide +kernel
theorem dX3_leastNumberWithout_27 : decode cX3_leastNumberWithout 27 = .ok (.iload 4, 2) := by decide +kernel
theorem dX3_leastNumberWithout_29 : decode cX3_leastNumberWithout 29 = .ok (.iload_n 2, 1) := by decide +kernel
theorem dX3_leastNumberWithout_30 : decode cX3_leastNumberWithout 30 = .ok (.invokevirtual 46, 3) := by decide +kernel
theorem dX3_leastNumberWithout_33 : decode cX3_leastNumberWithout 33 = .ok (.istore 5, 2) := by decide +kernel
theorem dX3_leastNumberWithout_35 : decode cX3_leastNumberWithout 35 = .ok (.iload 5, 2) := by decide +kernel
theorem dX3_leastNumberWithout_37 : decode cX3_leastNumberWithout 37 = .ok (.bipush (-5), 2) := by decide +kernel
theorem dX3_leastNumberWithout_39 : decode cX3_leastNumberWithout 39 = .ok (.if_icmp .eq 10, 3) := by decide +kernel
theorem dX3_leastNumberWithout_42 : decode cX3_leastNumberWithout 42 = .ok (.iload_n 3, 1) := by decide +kernel
theorem dX3_leastNumberWithout_43 : decode cX3_leastNumberWithout 43 = .ok (.iconst 1, 1) := by decide +kernel
theorem dX3_leastNumberWithout_44 : decode cX3_leastNumberWithout 44 = .ok (.iload 5, 2) := by decide +kernel
theorem dX3_leastNumberWithout_46 : decode cX3_leastNumberWithout 46 = .ok (.ishl, 1) := by decide +kernel
theorem dX3_leastNumberWithout_47 : decode cX3_leastNumberWithout 47 = .ok (.ior, 1) := by decide +kernel
theorem dX3_leastNumberWithout_48 : decode cX3_leastNumberWithout 48 = .ok (.istore_n 3, 1) := by decide +kernel
theorem dX3_leastNumberWithout_49 : decode cX3_leastNumberWithout 49 = .ok (.iinc 4 1, 3) := by decide +kernel
theorem dX3_leastNumberWithout_52 : decode cX3_leastNumberWithout 52 = .ok (.goto (-47), 3) := by decide +kernel
theorem dX3_leastNumberWithout_55 : decode cX3_leastNumberWithout 55 = .ok (.iconst 0, 1) := by decide +kernel
theorem dX3_leastNumberWithout_56 : decode cX3_leastNumberWithout 56 = .ok (.istore 4, 2) := by decide +kernel
theorem dX3_leastNumberWithout_58 : decode cX3_leastNumberWithout 58 = .ok (.iload 4, 2) := by decide +kernel
theorem dX3_leastNumberWithout_60 : decode cX3_leastNumberWithout 60 = .ok (.bipush 8, 2) := by decide +kernel
theorem dX3_leastNumberWithout_62 : decode cX3_leastNumberWithout 62 = .ok (.if_icmp .ge 18, 3) := by decide +kernel
theorem dX3_leastNumberWithout_65 : decode cX3_leastNumberWithout 65 = .ok (.iload_n 3, 1) := by decide +kernel
theorem dX3_leastNumberWithout_66 : decode cX3_leastNumberWithout 66 = .ok (.iload 4, 2) := by decide +kernel
theorem dX3_leastNumberWithout_68 : decode cX3_leastNumberWithout 68 = .ok (.invokestatic 49, 3) := by decide +kernel
theorem dX3_leastNumberWithout_71 : decode cX3_leastNumberWithout 71 = .ok (.ifCond .eq 9, 3) := by decide +kernel
theorem dX3_leastNumberWithout_74 : decode cX3_leastNumberWithout 74 = .ok (.iinc 4 1, 3) := by decide +kernel
theorem dX3_leastNumberWithout_77 : decode cX3_leastNumberWithout 77 = .ok (.goto (-19), 3) := by decide +kernel
theorem dX3_leastNumberWithout_80 : decode cX3_leastNumberWithout 80 = .ok (.iload 4, 2) := by decide +kernel
theorem dX3_leastNumberWithout_82 : decode cX3_leastNumberWithout 82 = .ok (.ireturn, 1) := by decide +kernel
set_option maxRecDepth 20000 in
theorem ggX3_rightWith_X3_numberOf : GoodIn wsX3_rightWith wsX3_numberOf := goodIn_r _ [5, 6, 7] (by decide +kernel) (by decide +kernel)
set_option maxRecDepth 20000 in
theorem gX3_rightWith_X3_numberOf : GoodIn wsX3_rightWith (wsV RX3 46 RX3 yX3_numberOf wsX3_numberOf) := goodIn_app (goodIn_of _ (by decide +kernel)) ggX3_rightWith_X3_numberOf
theorem dX3_rightWith_0 : decode cX3_rightWith 0 = .ok (.iconst 0, 1) := by decide +kernel
theorem dX3_rightWith_1 : decode cX3_rightWith 1 = .ok (.istore_n 3, 1) := by decide +kernel
theorem dX3_rightWith_2 : decode cX3_rightWith 2 = .ok (.iload_n 3, 1) := by decide +kernel
theorem dX3_rightWith_3 : decode cX3_rightWith 3 = .ok (.bipush 8, 2) := by decide +kernel
theorem dX3_rightWith_5 : decode cX3_rightWith 5 = .ok (.if_icmp .ge 21, 3) := by decide +kernel
theorem dX3_rightWith_8 : decode cX3_rightWith 8 = .ok (.aload_n 0, 1) := by decide +kernel
theorem dX3_rightWith_9 : decode cX3_rightWith 9 = .ok (.iload_n 1, 1) := by decide +kernel
theorem dX3_rightWith_10 : decode cX3_rightWith 10 = .ok (.iload_n 3, 1) := by decide +kernel
theorem dX3_rightWith_11 : decode cX3_rightWith 11 = .ok (.invokevirtual 46, 3) := by decide +kernel
theorem dX3_rightWith_14 : decode cX3_rightWith 14 = .ok (.iload_n 2, 1) := by decide +kernel
theorem dX3_rightWith_15 : decode cX3_rightWith 15 = .ok (.if_icmp .ne 5, 3) := by decide +kernel
theorem dX3_rightWith_18 : decode cX3_rightWith 18 = .ok (.iload_n 3, 1) := by decide +kernel
theorem dX3_rightWith_19 : decode cX3_rightWith 19 = .ok (.ireturn, 1) := by decide +kernel
theorem dX3_rightWith_20 : decode cX3_rightWith 20 = .ok (.iinc 3 1, 3) := by decide +kernel
theorem dX3_rightWith_23 : decode cX3_rightWith 23 = .ok (.goto (-21), 3) := by decide +kernel
theorem dX3_rightWith_26 : decode cX3_rightWith 26 = .ok (.bipush (-5), 2) := by decide +kernel
theorem dX3_rightWith_28 : decode cX3_rightWith 28 = .ok (.ireturn, 1) := by decide +kernel
set_option maxRecDepth 20000 in
theorem ggX3_leftWith_X3_numberOf : GoodIn wsX3_leftWith wsX3_numberOf := goodIn_r _ [5, 6, 7] (by decide +kernel) (by decide +kernel)
set_option maxRecDepth 20000 in
theorem gX3_leftWith_X3_numberOf : GoodIn wsX3_leftWith (wsV RX3 46 RX3 yX3_numberOf wsX3_numberOf) := goodIn_app (goodIn_of _ (by decide +kernel)) ggX3_leftWith_X3_numberOf
theorem dX3_leftWith_0 : decode cX3_leftWith 0 = .ok (.iconst 0, 1) := by decide +kernel
theorem dX3_leftWith_1 : decode cX3_leftWith 1 = .ok (.istore_n 3, 1) := by decide +kernel
theorem dX3_leftWith_2 : decode cX3_leftWith 2 = .ok (.iload_n 3, 1) := by decide +kernel
theorem dX3_leftWith_3 : decode cX3_leftWith 3 = .ok (.bipush 8, 2) := by decide +kernel
theorem dX3_leftWith_5 : decode cX3_leftWith 5 = .ok (.if_icmp .ge 21, 3) := by decide +kernel
theorem dX3_leftWith_8 : decode cX3_leftWith 8 = .ok (.aload_n 0, 1) := by decide +kernel
theorem dX3_leftWith_9 : decode cX3_leftWith 9 = .ok (.iload_n 3, 1) := by decide +kernel
theorem dX3_leftWith_10 : decode cX3_leftWith 10 = .ok (.iload_n 1, 1) := by decide +kernel
theorem dX3_leftWith_11 : decode cX3_leftWith 11 = .ok (.invokevirtual 46, 3) := by decide +kernel
theorem dX3_leftWith_14 : decode cX3_leftWith 14 = .ok (.iload_n 2, 1) := by decide +kernel
theorem dX3_leftWith_15 : decode cX3_leftWith 15 = .ok (.if_icmp .ne 5, 3) := by decide +kernel
theorem dX3_leftWith_18 : decode cX3_leftWith 18 = .ok (.iload_n 3, 1) := by decide +kernel
theorem dX3_leftWith_19 : decode cX3_leftWith 19 = .ok (.ireturn, 1) := by decide +kernel
theorem dX3_leftWith_20 : decode cX3_leftWith 20 = .ok (.iinc 3 1, 3) := by decide +kernel
theorem dX3_leftWith_23 : decode cX3_leftWith 23 = .ok (.goto (-21), 3) := by decide +kernel
theorem dX3_leftWith_26 : decode cX3_leftWith 26 = .ok (.bipush (-5), 2) := by decide +kernel
theorem dX3_leftWith_28 : decode cX3_leftWith 28 = .ok (.ireturn, 1) := by decide +kernel
set_option maxRecDepth 20000 in
theorem ggX3_exchangeAlongPath_X3_leftWith : GoodIn wsX3_exchangeAlongPath wsX3_leftWith := goodIn_r _ [5, 6, 7, 8, 4, 9, 10, 22] (by decide +kernel) (by decide +kernel)
set_option maxRecDepth 20000 in
theorem gX3_exchangeAlongPath_X3_leftWith : GoodIn wsX3_exchangeAlongPath (wsV RX3 35 RX3 yX3_leftWith wsX3_leftWith) := goodIn_app (goodIn_of _ (by decide +kernel)) ggX3_exchangeAlongPath_X3_leftWith
set_option maxRecDepth 20000 in
theorem ggX3_exchangeAlongPath_X5_isPerson : GoodIn wsX3_exchangeAlongPath wsX5_isPerson := goodIn_r _ [13] (by decide +kernel) (by decide +kernel)
set_option maxRecDepth 20000 in
theorem gX3_exchangeAlongPath_X5_isPerson_n52 : GoodIn wsX3_exchangeAlongPath (wsX5_isPerson) := ggX3_exchangeAlongPath_X5_isPerson
set_option maxRecDepth 20000 in
theorem ggX3_exchangeAlongPath_X3_rightWith : GoodIn wsX3_exchangeAlongPath wsX3_rightWith := goodIn_r _ [17, 6, 7, 8, 4, 9, 10, 22] (by decide +kernel) (by decide +kernel)
set_option maxRecDepth 20000 in
theorem gX3_exchangeAlongPath_X3_rightWith : GoodIn wsX3_exchangeAlongPath (wsV RX3 56 RX3 yX3_rightWith wsX3_rightWith) := goodIn_app (goodIn_of _ (by decide +kernel)) ggX3_exchangeAlongPath_X3_rightWith
set_option maxRecDepth 20000 in
theorem ggX3_exchangeAlongPath_X3_setNumber : GoodIn wsX3_exchangeAlongPath wsX3_setNumber := goodIn_r _ [21, 10, 22] (by decide +kernel) (by decide +kernel)
set_option maxRecDepth 20000 in
theorem gX3_exchangeAlongPath_X3_setNumber : GoodIn wsX3_exchangeAlongPath (wsV RX3 43 RX3 yX3_setNumber wsX3_setNumber) := goodIn_app (goodIn_of _ (by decide +kernel)) ggX3_exchangeAlongPath_X3_setNumber
theorem dX3_exchangeAlongPath_0 : decode cX3_exchangeAlongPath 0 = .ok (.iload_n 1, 1) := by decide +kernel
theorem dX3_exchangeAlongPath_1 : decode cX3_exchangeAlongPath 1 = .ok (.istore 4, 2) := by decide +kernel
theorem dX3_exchangeAlongPath_3 : decode cX3_exchangeAlongPath 3 = .ok (.aload_n 0, 1) := by decide +kernel
theorem dX3_exchangeAlongPath_4 : decode cX3_exchangeAlongPath 4 = .ok (.iload 4, 2) := by decide +kernel
theorem dX3_exchangeAlongPath_6 : decode cX3_exchangeAlongPath 6 = .ok (.iload_n 2, 1) := by decide +kernel
theorem dX3_exchangeAlongPath_7 : decode cX3_exchangeAlongPath 7 = .ok (.invokevirtual 35, 3) := by decide +kernel
theorem dX3_exchangeAlongPath_10 : decode cX3_exchangeAlongPath 10 = .ok (.istore 5, 2) := by decide +kernel
theorem dX3_exchangeAlongPath_12 : decode cX3_exchangeAlongPath 12 = .ok (.iconst 0, 1) := by decide +kernel
theorem dX3_exchangeAlongPath_13 : decode cX3_exchangeAlongPath 13 = .ok (.istore 6, 2) := by decide +kernel
theorem dX3_exchangeAlongPath_15 : decode cX3_exchangeAlongPath 15 = .ok (.iload 6, 2) := by decide +kernel
theorem dX3_exchangeAlongPath_17 : decode cX3_exchangeAlongPath 17 = .ok (.bipush 8, 2) := by decide +kernel
theorem dX3_exchangeAlongPath_19 : decode cX3_exchangeAlongPath 19 = .ok (.if_icmp .ge 70, 3) := by decide +kernel
theorem dX3_exchangeAlongPath_22 : decode cX3_exchangeAlongPath 22 = .ok (.iload 5, 2) := by decide +kernel
theorem dX3_exchangeAlongPath_24 : decode cX3_exchangeAlongPath 24 = .ok (.invokestatic 52, 3) := by decide +kernel
theorem dX3_exchangeAlongPath_27 : decode cX3_exchangeAlongPath 27 = .ok (.ifCond .eq 62, 3) := by decide +kernel
theorem dX3_exchangeAlongPath_30 : decode cX3_exchangeAlongPath 30 = .ok (.aload_n 0, 1) := by decide +kernel
theorem dX3_exchangeAlongPath_31 : decode cX3_exchangeAlongPath 31 = .ok (.iload 5, 2) := by decide +kernel
theorem dX3_exchangeAlongPath_33 : decode cX3_exchangeAlongPath 33 = .ok (.iload_n 3, 1) := by decide +kernel
theorem dX3_exchangeAlongPath_34 : decode cX3_exchangeAlongPath 34 = .ok (.invokevirtual 56, 3) := by decide +kernel
theorem dX3_exchangeAlongPath_37 : decode cX3_exchangeAlongPath 37 = .ok (.istore 7, 2) := by decide +kernel
theorem dX3_exchangeAlongPath_39 : decode cX3_exchangeAlongPath 39 = .ok (.aload_n 0, 1) := by decide +kernel
theorem dX3_exchangeAlongPath_40 : decode cX3_exchangeAlongPath 40 = .ok (.iload 5, 2) := by decide +kernel
theorem dX3_exchangeAlongPath_42 : decode cX3_exchangeAlongPath 42 = .ok (.iload 4, 2) := by decide +kernel
theorem dX3_exchangeAlongPath_44 : decode cX3_exchangeAlongPath 44 = .ok (.iload_n 3, 1) := by decide +kernel
theorem dX3_exchangeAlongPath_45 : decode cX3_exchangeAlongPath 45 = .ok (.invokevirtual 43, 3) := by decide +kernel
theorem dX3_exchangeAlongPath_48 : decode cX3_exchangeAlongPath 48 = .ok (.iload 7, 2) := by decide +kernel
theorem dX3_exchangeAlongPath_50 : decode cX3_exchangeAlongPath 50 = .ok (.invokestatic 52, 3) := by decide +kernel
theorem dX3_exchangeAlongPath_53 : decode cX3_exchangeAlongPath 53 = .ok (.ifCond .ne 4, 3) := by decide +kernel
theorem dX3_exchangeAlongPath_56 : decode cX3_exchangeAlongPath 56 = .ok (.return_, 1) := by decide +kernel
theorem dX3_exchangeAlongPath_57 : decode cX3_exchangeAlongPath 57 = .ok (.aload_n 0, 1) := by decide +kernel
theorem dX3_exchangeAlongPath_58 : decode cX3_exchangeAlongPath 58 = .ok (.iload 7, 2) := by decide +kernel
theorem dX3_exchangeAlongPath_60 : decode cX3_exchangeAlongPath 60 = .ok (.iload_n 2, 1) := by decide +kernel
theorem dX3_exchangeAlongPath_61 : decode cX3_exchangeAlongPath 61 = .ok (.invokevirtual 35, 3) := by decide +kernel
theorem dX3_exchangeAlongPath_64 : decode cX3_exchangeAlongPath 64 = .ok (.istore 8, 2) := by decide +kernel
theorem dX3_exchangeAlongPath_66 : decode cX3_exchangeAlongPath 66 = .ok (.aload_n 0, 1) := by decide +kernel
theorem dX3_exchangeAlongPath_67 : decode cX3_exchangeAlongPath 67 = .ok (.iload 5, 2) := by decide +kernel
theorem dX3_exchangeAlongPath_69 : decode cX3_exchangeAlongPath 69 = .ok (.iload 7, 2) := by decide +kernel
theorem dX3_exchangeAlongPath_71 : decode cX3_exchangeAlongPath 71 = .ok (.iload_n 2, 1) := by decide +kernel
theorem dX3_exchangeAlongPath_72 : decode cX3_exchangeAlongPath 72 = .ok (.invokevirtual 43, 3) := by decide +kernel
theorem dX3_exchangeAlongPath_75 : decode cX3_exchangeAlongPath 75 = .ok (.iload 7, 2) := by decide +kernel
theorem dX3_exchangeAlongPath_77 : decode cX3_exchangeAlongPath 77 = .ok (.istore 4, 2) := by decide +kernel
theorem dX3_exchangeAlongPath_79 : decode cX3_exchangeAlongPath 79 = .ok (.iload 8, 2) := by decide +kernel
theorem dX3_exchangeAlongPath_81 : decode cX3_exchangeAlongPath 81 = .ok (.istore 5, 2) := by decide +kernel
theorem dX3_exchangeAlongPath_83 : decode cX3_exchangeAlongPath 83 = .ok (.iinc 6 1, 3) := by decide +kernel
theorem dX3_exchangeAlongPath_86 : decode cX3_exchangeAlongPath 86 = .ok (.goto (-71), 3) := by decide +kernel
theorem dX3_exchangeAlongPath_89 : decode cX3_exchangeAlongPath 89 = .ok (.return_, 1) := by decide +kernel
theorem dX4_init_0 : decode cX4_init 0 = .ok (.aload_n 0, 1) := by decide +kernel
theorem dX4_init_1 : decode cX4_init 1 = .ok (.invokespecial 3, 3) := by decide +kernel
theorem dX4_init_4 : decode cX4_init 4 = .ok (.aload_n 0, 1) := by decide +kernel
theorem dX4_init_5 : decode cX4_init 5 = .ok (.bipush 80, 2) := by decide +kernel
theorem dX4_init_7 : decode cX4_init 7 = .ok (.newarray .char, 2) := by decide +kernel
theorem dX4_init_9 : decode cX4_init 9 = .ok (.putfield 9, 3) := by decide +kernel
theorem dX4_init_12 : decode cX4_init 12 = .ok (.aload_n 0, 1) := by decide +kernel
theorem dX4_init_13 : decode cX4_init 13 = .ok (.bipush 8, 2) := by decide +kernel
theorem dX4_init_15 : decode cX4_init 15 = .ok (.newarray .int, 2) := by decide +kernel
theorem dX4_init_17 : decode cX4_init 17 = .ok (.putfield 15, 3) := by decide +kernel
theorem dX4_init_20 : decode cX4_init 20 = .ok (.return_, 1) := by decide +kernel
theorem dX4_length_0 : decode cX4_length 0 = .ok (.aload_n 0, 1) := by decide +kernel
theorem dX4_length_1 : decode cX4_length 1 = .ok (.getfield 19, 3) := by decide +kernel
theorem dX4_length_4 : decode cX4_length 4 = .ok (.ireturn, 1) := by decide +kernel
theorem dX4_hasRoom_0 : decode cX4_hasRoom 0 = .ok (.aload_n 0, 1) := by decide +kernel
theorem dX4_hasRoom_1 : decode cX4_hasRoom 1 = .ok (.getfield 19, 3) := by decide +kernel
theorem dX4_hasRoom_4 : decode cX4_hasRoom 4 = .ok (.bipush 80, 2) := by decide +kernel
theorem dX4_hasRoom_6 : decode cX4_hasRoom 6 = .ok (.if_icmp .ge 7, 3) := by decide +kernel
theorem dX4_hasRoom_9 : decode cX4_hasRoom 9 = .ok (.iconst 1, 1) := by decide +kernel
theorem dX4_hasRoom_10 : decode cX4_hasRoom 10 = .ok (.goto 4, 3) := by decide +kernel
theorem dX4_hasRoom_13 : decode cX4_hasRoom 13 = .ok (.iconst 0, 1) := by decide +kernel
theorem dX4_hasRoom_14 : decode cX4_hasRoom 14 = .ok (.ireturn, 1) := by decide +kernel
set_option maxRecDepth 20000 in
theorem ggX4_add_X4_hasRoom : GoodIn wsX4_add wsX4_hasRoom := goodIn_r _ [7, 2, 8, 9, 10, 11, 12, 13] (by decide +kernel) (by decide +kernel)
set_option maxRecDepth 20000 in
theorem gX4_add_X4_hasRoom : GoodIn wsX4_add (wsV RX4 23 RX4 yX4_hasRoom wsX4_hasRoom) := goodIn_app (goodIn_of _ (by decide +kernel)) ggX4_add_X4_hasRoom
theorem dX4_add_0 : decode cX4_add 0 = .ok (.aload_n 0, 1) := by decide +kernel
theorem dX4_add_1 : decode cX4_add 1 = .ok (.invokevirtual 23, 3) := by decide +kernel
theorem dX4_add_4 : decode cX4_add 4 = .ok (.ifCond .eq 24, 3) := by decide +kernel
theorem dX4_add_7 : decode cX4_add 7 = .ok (.aload_n 0, 1) := by decide +kernel
theorem dX4_add_8 : decode cX4_add 8 = .ok (.getfield 9, 3) := by decide +kernel
theorem dX4_add_11 : decode cX4_add 11 = .ok (.aload_n 0, 1) := by decide +kernel
theorem dX4_add_12 : decode cX4_add 12 = .ok (.getfield 19, 3) := by decide +kernel
theorem dX4_add_15 : decode cX4_add 15 = .ok (.iload_n 1, 1) := by decide +kernel
theorem dX4_add_16 : decode cX4_add 16 = .ok (.i2c, 1) := by decide +kernel
theorem dX4_add_17 : decode cX4_add 17 = .ok (.castore, 1) := by decide +kernel
theorem dX4_add_18 : decode cX4_add 18 = .ok (.aload_n 0, 1) := by decide +kernel
theorem dX4_add_19 : decode cX4_add 19 = .ok (.dup, 1) := by decide +kernel
theorem dX4_add_20 : decode cX4_add 20 = .ok (.getfield 19, 3) := by decide +kernel
theorem dX4_add_23 : decode cX4_add 23 = .ok (.iconst 1, 1) := by decide +kernel
theorem dX4_add_24 : decode cX4_add 24 = .ok (.iadd, 1) := by decide +kernel
theorem dX4_add_25 : decode cX4_add 25 = .ok (.putfield 19, 3) := by decide +kernel
theorem dX4_add_28 : decode cX4_add 28 = .ok (.return_, 1) := by decide +kernel
theorem dX4_empty_0 : decode cX4_empty 0 = .ok (.aload_n 0, 1) := by decide +kernel
theorem dX4_empty_1 : decode cX4_empty 1 = .ok (.iconst 0, 1) := by decide +kernel
theorem dX4_empty_2 : decode cX4_empty 2 = .ok (.putfield 19, 3) := by decide +kernel
theorem dX4_empty_5 : decode cX4_empty 5 = .ok (.return_, 1) := by decide +kernel
theorem dX4_rightsFor_0 : decode cX4_rightsFor 0 = .ok (.aload_n 0, 1) := by decide +kernel
theorem dX4_rightsFor_1 : decode cX4_rightsFor 1 = .ok (.getfield 15, 3) := by decide +kernel
theorem dX4_rightsFor_4 : decode cX4_rightsFor 4 = .ok (.iload_n 1, 1) := by decide +kernel
theorem dX4_rightsFor_5 : decode cX4_rightsFor 5 = .ok (.iaload, 1) := by decide +kernel
theorem dX4_rightsFor_6 : decode cX4_rightsFor 6 = .ok (.ireturn, 1) := by decide +kernel
set_option maxRecDepth 20000 in
theorem ggX4_parse_J7_fill_53178 : GoodIn wsX4_parse wsJ7_fill_53178 := goodIn_r _ [8] (by decide +kernel) (by decide +kernel)
set_option maxRecDepth 20000 in
theorem gX4_parse_J7_fill_53178 : GoodIn wsX4_parse (va_wsS RX4 27 yJ7_fill_53178 wsJ7_fill_53178) := goodIn_app (goodIn_of _ (by decide +kernel)) ggX4_parse_J7_fill_53178
set_option maxRecDepth 20000 in
theorem ggX4_parse_X4_beginGroup : GoodIn wsX4_parse wsX4_beginGroup := goodIn_r _ [13, 14, 4, 15, 31, 32, 33, 34, 35, 36] (by decide +kernel) (by decide +kernel)
set_option maxRecDepth 20000 in
theorem gX4_parse_X4_beginGroup : GoodIn wsX4_parse (wsV RX4 33 RX4 yX4_beginGroup wsX4_beginGroup) := goodIn_app (goodIn_of _ (by decide +kernel)) ggX4_parse_X4_beginGroup
set_option maxRecDepth 20000 in
theorem ggX4_parse_X4_takesSign : GoodIn wsX4_parse wsX4_takesSign := goodIn_r _ [19, 14, 15, 4, 20, 21, 22, 12, 23, 24, 25, 26, 27, 1, 28, 29, 30, 9, 10, 11, 13, 31, 32, 33, 34, 35, 36] (by decide +kernel) (by decide +kernel)
set_option maxRecDepth 20000 in
theorem gX4_parse_X4_takesSign : GoodIn wsX4_parse (wsV RX4 36 RX4 yX4_takesSign wsX4_takesSign) := goodIn_app (goodIn_of _ (by decide +kernel)) ggX4_parse_X4_takesSign
set_option maxRecDepth 20000 in
theorem ggX4_parse_X4_endGroup : GoodIn wsX4_parse wsX4_endGroup := goodIn_r _ [27, 14, 1, 4, 28, 29, 30, 31, 32, 33, 34, 35, 36] (by decide +kernel) (by decide +kernel)
set_option maxRecDepth 20000 in
theorem gX4_parse_X4_endGroup : GoodIn wsX4_parse (wsV RX4 43 RX4 yX4_endGroup wsX4_endGroup) := goodIn_app (goodIn_of _ (by decide +kernel)) ggX4_parse_X4_endGroup
theorem dX4_parse_0 : decode cX4_parse 0 = .ok (.aload_n 0, 1) := by decide +kernel
theorem dX4_parse_1 : decode cX4_parse 1 = .ok (.getfield 15, 3) := by decide +kernel
theorem dX4_parse_4 : decode cX4_parse 4 = .ok (.iconst 0, 1) := by decide +kernel
theorem dX4_parse_5 : decode cX4_parse 5 = .ok (.invokestatic 27, 3) := by decide +kernel
theorem dX4_parse_8 : decode cX4_parse 8 = .ok (.aload_n 0, 1) := by decide +kernel
theorem dX4_parse_9 : decode cX4_parse 9 = .ok (.invokevirtual 33, 3) := by decide +kernel
theorem dX4_parse_12 : decode cX4_parse 12 = .ok (.iconst 0, 1) := by decide +kernel
theorem dX4_parse_13 : decode cX4_parse 13 = .ok (.istore_n 1, 1) := by decide +kernel
theorem dX4_parse_14 : decode cX4_parse 14 = .ok (.iload_n 1, 1) := by decide +kernel
theorem dX4_parse_15 : decode cX4_parse 15 = .ok (.aload_n 0, 1) := by decide +kernel
theorem dX4_parse_16 : decode cX4_parse 16 = .ok (.getfield 19, 3) := by decide +kernel
theorem dX4_parse_19 : decode cX4_parse 19 = .ok (.if_icmp .ge 30, 3) := by decide +kernel
theorem dX4_parse_22 : decode cX4_parse 22 = .ok (.iload_n 1, 1) := by decide +kernel
theorem dX4_parse_23 : decode cX4_parse 23 = .ok (.bipush 80, 2) := by decide +kernel
theorem dX4_parse_25 : decode cX4_parse 25 = .ok (.if_icmp .ge 24, 3) := by decide +kernel
theorem dX4_parse_28 : decode cX4_parse 28 = .ok (.aload_n 0, 1) := by decide +kernel
theorem dX4_parse_29 : decode cX4_parse 29 = .ok (.aload_n 0, 1) := by decide +kernel
theorem dX4_parse_30 : decode cX4_parse 30 = .ok (.getfield 9, 3) := by decide +kernel
theorem dX4_parse_33 : decode cX4_parse 33 = .ok (.iload_n 1, 1) := by decide +kernel
theorem dX4_parse_34 : decode cX4_parse 34 = .ok (.caload, 1) := by decide +kernel
theorem dX4_parse_35 : decode cX4_parse 35 = .ok (.invokevirtual 36, 3) := by decide +kernel
theorem dX4_parse_38 : decode cX4_parse 38 = .ok (.ifCond .ne 5, 3) := by decide +kernel
theorem dX4_parse_41 : decode cX4_parse 41 = .ok (.iload_n 1, 1) := by decide +kernel
theorem dX4_parse_42 : decode cX4_parse 42 = .ok (.ireturn, 1) := by decide +kernel
theorem dX4_parse_43 : decode cX4_parse 43 = .ok (.iinc 1 1, 3) := by decide +kernel
theorem dX4_parse_46 : decode cX4_parse 46 = .ok (.goto (-32), 3) := by decide +kernel
theorem dX4_parse_49 : decode cX4_parse 49 = .ok (.aload_n 0, 1) := by decide +kernel
theorem dX4_parse_50 : decode cX4_parse 50 = .ok (.getfield 40, 3) := by decide +kernel
theorem dX4_parse_53 : decode cX4_parse 53 = .ok (.ifCond .ne 8, 3) := by decide +kernel
theorem dX4_parse_56 : decode cX4_parse 56 = .ok (.aload_n 0, 1) := by decide +kernel
theorem dX4_parse_57 : decode cX4_parse 57 = .ok (.getfield 19, 3) := by decide +kernel
theorem dX4_parse_60 : decode cX4_parse 60 = .ok (.ireturn, 1) := by decide +kernel
theorem dX4_parse_61 : decode cX4_parse 61 = .ok (.aload_n 0, 1) := by decide +kernel
theorem dX4_parse_62 : decode cX4_parse 62 = .ok (.invokevirtual 43, 3) := by decide +kernel
theorem dX4_parse_65 : decode cX4_parse 65 = .ok (.bipush (-5), 2) := by decide +kernel
theorem dX4_parse_67 : decode cX4_parse 67 = .ok (.ireturn, 1) := by decide +kernel
theorem dX4_beginGroup_0 : decode cX4_beginGroup 0 = .ok (.aload_n 0, 1) := by decide +kernel
theorem dX4_beginGroup_1 : decode cX4_beginGroup 1 = .ok (.iconst 0, 1) := by decide +kernel
theorem dX4_beginGroup_2 : decode cX4_beginGroup 2 = .ok (.putfield 46, 3) := by decide +kernel
theorem dX4_beginGroup_5 : decode cX4_beginGroup 5 = .ok (.aload_n 0, 1) := by decide +kernel
theorem dX4_beginGroup_6 : decode cX4_beginGroup 6 = .ok (.iconst 0, 1) := by decide +kernel
theorem dX4_beginGroup_7 : decode cX4_beginGroup 7 = .ok (.putfield 40, 3) := by decide +kernel
theorem dX4_beginGroup_10 : decode cX4_beginGroup 10 = .ok (.aload_n 0, 1) := by decide +kernel
theorem dX4_beginGroup_11 : decode cX4_beginGroup 11 = .ok (.iconst 0, 1) := by decide +kernel
theorem dX4_beginGroup_12 : decode cX4_beginGroup 12 = .ok (.putfield 49, 3) := by decide +kernel
theorem dX4_beginGroup_15 : decode cX4_beginGroup 15 = .ok (.return_, 1) := by decide +kernel
set_option maxRecDepth 20000 in
theorem ggX4_endGroup_X5_hasBit : GoodIn wsX4_endGroup wsX5_hasBit := goodIn_r _ [6] (by decide +kernel) (by decide +kernel)
set_option maxRecDepth 20000 in
theorem gX4_endGroup_X5_hasBit_n53 : GoodIn wsX4_endGroup (wsX5_hasBit) := ggX4_endGroup_X5_hasBit
theorem dX4_endGroup_0 : decode cX4_endGroup 0 = .ok (.iconst 0, 1) := by decide +kernel
theorem dX4_endGroup_1 : decode cX4_endGroup 1 = .ok (.istore_n 1, 1) := by decide +kernel
theorem dX4_endGroup_2 : decode cX4_endGroup 2 = .ok (.iload_n 1, 1) := by decide +kernel
theorem dX4_endGroup_3 : decode cX4_endGroup 3 = .ok (.bipush 8, 2) := by decide +kernel
theorem dX4_endGroup_5 : decode cX4_endGroup 5 = .ok (.if_icmp .ge 33, 3) := by decide +kernel
theorem dX4_endGroup_8 : decode cX4_endGroup 8 = .ok (.aload_n 0, 1) := by decide +kernel
theorem dX4_endGroup_9 : decode cX4_endGroup 9 = .ok (.getfield 46, 3) := by decide +kernel
theorem dX4_endGroup_12 : decode cX4_endGroup 12 = .ok (.iload_n 1, 1) := by decide +kernel
theorem dX4_endGroup_13 : decode cX4_endGroup 13 = .ok (.invokestatic 53, 3) := by decide +kernel
theorem dX4_endGroup_16 : decode cX4_endGroup 16 = .ok (.ifCond .eq 16, 3) := by decide +kernel
theorem dX4_endGroup_19 : decode cX4_endGroup 19 = .ok (.aload_n 0, 1) := by decide +kernel
theorem dX4_endGroup_20 : decode cX4_endGroup 20 = .ok (.getfield 15, 3) := by decide +kernel
theorem dX4_endGroup_23 : decode cX4_endGroup 23 = .ok (.iload_n 1, 1) := by decide +kernel
theorem dX4_endGroup_24 : decode cX4_endGroup 24 = .ok (.dup2, 1) := by decide +kernel
theorem dX4_endGroup_25 : decode cX4_endGroup 25 = .ok (.iaload, 1) := by decide +kernel
theorem dX4_endGroup_26 : decode cX4_endGroup 26 = .ok (.aload_n 0, 1) := by decide +kernel
theorem dX4_endGroup_27 : decode cX4_endGroup 27 = .ok (.getfield 40, 3) := by decide +kernel
theorem dX4_endGroup_30 : decode cX4_endGroup 30 = .ok (.ior, 1) := by decide +kernel
theorem dX4_endGroup_31 : decode cX4_endGroup 31 = .ok (.iastore, 1) := by decide +kernel
theorem dX4_endGroup_32 : decode cX4_endGroup 32 = .ok (.iinc 1 1, 3) := by decide +kernel
theorem dX4_endGroup_35 : decode cX4_endGroup 35 = .ok (.goto (-33), 3) := by decide +kernel
theorem dX4_endGroup_38 : decode cX4_endGroup 38 = .ok (.return_, 1) := by decide +kernel
set_option maxRecDepth 20000 in
theorem ggX4_takesSign_X4_takesPerson : GoodIn wsX4_takesSign wsX4_takesPerson := goodIn_r _ [8, 2, 3, 1, 21, 22, 23, 24, 25, 26] (by decide +kernel) (by decide +kernel)
set_option maxRecDepth 20000 in
theorem gX4_takesSign_X4_takesPerson : GoodIn wsX4_takesSign (wsV RX4 57 RX4 yX4_takesPerson wsX4_takesPerson) := goodIn_app (goodIn_of _ (by decide +kernel)) ggX4_takesSign_X4_takesPerson
set_option maxRecDepth 20000 in
theorem ggX4_takesSign_X4_endGroup : GoodIn wsX4_takesSign wsX4_endGroup := goodIn_r _ [12, 1, 13, 3, 14, 15, 16, 21, 22, 23, 24, 25, 26] (by decide +kernel) (by decide +kernel)
set_option maxRecDepth 20000 in
theorem gX4_takesSign_X4_endGroup : GoodIn wsX4_takesSign (wsV RX4 43 RX4 yX4_endGroup wsX4_endGroup) := goodIn_app (goodIn_of _ (by decide +kernel)) ggX4_takesSign_X4_endGroup
set_option maxRecDepth 20000 in
theorem ggX4_takesSign_X4_beginGroup : GoodIn wsX4_takesSign wsX4_beginGroup := goodIn_r _ [20, 1, 3, 2, 21, 22, 23, 24, 25, 26] (by decide +kernel) (by decide +kernel)
set_option maxRecDepth 20000 in
theorem gX4_takesSign_X4_beginGroup : GoodIn wsX4_takesSign (wsV RX4 33 RX4 yX4_beginGroup wsX4_beginGroup) := goodIn_app (goodIn_of _ (by decide +kernel)) ggX4_takesSign_X4_beginGroup
theorem dX4_takesSign_0 : decode cX4_takesSign 0 = .ok (.iload_n 1, 1) := by decide +kernel
theorem dX4_takesSign_1 : decode cX4_takesSign 1 = .ok (.bipush 48, 2) := by decide +kernel
theorem dX4_takesSign_3 : decode cX4_takesSign 3 = .ok (.if_icmp .lt 20, 3) := by decide +kernel
theorem dX4_takesSign_6 : decode cX4_takesSign 6 = .ok (.iload_n 1, 1) := by decide +kernel
theorem dX4_takesSign_7 : decode cX4_takesSign 7 = .ok (.bipush 56, 2) := by decide +kernel
theorem dX4_takesSign_9 : decode cX4_takesSign 9 = .ok (.if_icmp .ge 14, 3) := by decide +kernel
theorem dX4_takesSign_12 : decode cX4_takesSign 12 = .ok (.aload_n 0, 1) := by decide +kernel
theorem dX4_takesSign_13 : decode cX4_takesSign 13 = .ok (.iconst 1, 1) := by decide +kernel
theorem dX4_takesSign_14 : decode cX4_takesSign 14 = .ok (.iload_n 1, 1) := by decide +kernel
theorem dX4_takesSign_15 : decode cX4_takesSign 15 = .ok (.bipush 48, 2) := by decide +kernel
theorem dX4_takesSign_17 : decode cX4_takesSign 17 = .ok (.isub, 1) := by decide +kernel
theorem dX4_takesSign_18 : decode cX4_takesSign 18 = .ok (.ishl, 1) := by decide +kernel
theorem dX4_takesSign_19 : decode cX4_takesSign 19 = .ok (.invokevirtual 57, 3) := by decide +kernel
theorem dX4_takesSign_22 : decode cX4_takesSign 22 = .ok (.ireturn, 1) := by decide +kernel
theorem dX4_takesSign_23 : decode cX4_takesSign 23 = .ok (.iload_n 1, 1) := by decide +kernel
theorem dX4_takesSign_24 : decode cX4_takesSign 24 = .ok (.bipush 45, 2) := by decide +kernel
theorem dX4_takesSign_26 : decode cX4_takesSign 26 = .ok (.if_icmp .ne 24, 3) := by decide +kernel
theorem dX4_takesSign_29 : decode cX4_takesSign 29 = .ok (.aload_n 0, 1) := by decide +kernel
theorem dX4_takesSign_30 : decode cX4_takesSign 30 = .ok (.getfield 46, 3) := by decide +kernel
theorem dX4_takesSign_33 : decode cX4_takesSign 33 = .ok (.ifCond .eq 17, 3) := by decide +kernel
theorem dX4_takesSign_36 : decode cX4_takesSign 36 = .ok (.aload_n 0, 1) := by decide +kernel
theorem dX4_takesSign_37 : decode cX4_takesSign 37 = .ok (.getfield 49, 3) := by decide +kernel
theorem dX4_takesSign_40 : decode cX4_takesSign 40 = .ok (.ifCond .ne 10, 3) := by decide +kernel
theorem dX4_takesSign_43 : decode cX4_takesSign 43 = .ok (.aload_n 0, 1) := by decide +kernel
theorem dX4_takesSign_44 : decode cX4_takesSign 44 = .ok (.iconst 1, 1) := by decide +kernel
theorem dX4_takesSign_45 : decode cX4_takesSign 45 = .ok (.putfield 49, 3) := by decide +kernel
theorem dX4_takesSign_48 : decode cX4_takesSign 48 = .ok (.iconst 1, 1) := by decide +kernel
theorem dX4_takesSign_49 : decode cX4_takesSign 49 = .ok (.ireturn, 1) := by decide +kernel
theorem dX4_takesSign_50 : decode cX4_takesSign 50 = .ok (.iload_n 1, 1) := by decide +kernel
theorem dX4_takesSign_51 : decode cX4_takesSign 51 = .ok (.bipush 44, 2) := by decide +kernel
theorem dX4_takesSign_53 : decode cX4_takesSign 53 = .ok (.if_icmp .ne 20, 3) := by decide +kernel
theorem dX4_takesSign_56 : decode cX4_takesSign 56 = .ok (.aload_n 0, 1) := by decide +kernel
theorem dX4_takesSign_57 : decode cX4_takesSign 57 = .ok (.getfield 40, 3) := by decide +kernel
theorem dX4_takesSign_60 : decode cX4_takesSign 60 = .ok (.ifCond .eq 13, 3) := by decide +kernel
theorem dX4_takesSign_63 : decode cX4_takesSign 63 = .ok (.aload_n 0, 1) := by decide +kernel
theorem dX4_takesSign_64 : decode cX4_takesSign 64 = .ok (.invokevirtual 43, 3) := by decide +kernel
theorem dX4_takesSign_67 : decode cX4_takesSign 67 = .ok (.aload_n 0, 1) := by decide +kernel
theorem dX4_takesSign_68 : decode cX4_takesSign 68 = .ok (.invokevirtual 33, 3) := by decide +kernel
theorem dX4_takesSign_71 : decode cX4_takesSign 71 = .ok (.iconst 1, 1) := by decide +kernel
theorem dX4_takesSign_72 : decode cX4_takesSign 72 = .ok (.ireturn, 1) := by decide +kernel
theorem dX4_takesSign_73 : decode cX4_takesSign 73 = .ok (.iconst 0, 1) := by decide +kernel
theorem dX4_takesSign_74 : decode cX4_takesSign 74 = .ok (.ireturn, 1) := by decide +kernel
theorem dX4_takesPerson_0 : decode cX4_takesPerson 0 = .ok (.aload_n 0, 1) := by decide +kernel
theorem dX4_takesPerson_1 : decode cX4_takesPerson 1 = .ok (.getfield 49, 3) := by decide +kernel
theorem dX4_takesPerson_4 : decode cX4_takesPerson 4 = .ok (.ifCond .eq 10, 3) := by decide +kernel
theorem dX4_takesPerson_7 : decode cX4_takesPerson 7 = .ok (.aload_n 0, 1) := by decide +kernel
theorem dX4_takesPerson_8 : decode cX4_takesPerson 8 = .ok (.getfield 40, 3) := by decide +kernel
theorem dX4_takesPerson_11 : decode cX4_takesPerson 11 = .ok (.goto 7, 3) := by decide +kernel
theorem dX4_takesPerson_14 : decode cX4_takesPerson 14 = .ok (.aload_n 0, 1) := by decide +kernel
theorem dX4_takesPerson_15 : decode cX4_takesPerson 15 = .ok (.getfield 46, 3) := by decide +kernel
theorem dX4_takesPerson_18 : decode cX4_takesPerson 18 = .ok (.iload_n 1, 1) := by decide +kernel
theorem dX4_takesPerson_19 : decode cX4_takesPerson 19 = .ok (.if_icmp .lt 5, 3) := by decide +kernel
theorem dX4_takesPerson_22 : decode cX4_takesPerson 22 = .ok (.iconst 0, 1) := by decide +kernel
theorem dX4_takesPerson_23 : decode cX4_takesPerson 23 = .ok (.ireturn, 1) := by decide +kernel
theorem dX4_takesPerson_24 : decode cX4_takesPerson 24 = .ok (.aload_n 0, 1) := by decide +kernel
theorem dX4_takesPerson_25 : decode cX4_takesPerson 25 = .ok (.getfield 49, 3) := by decide +kernel
theorem dX4_takesPerson_28 : decode cX4_takesPerson 28 = .ok (.ifCond .eq 16, 3) := by decide +kernel
theorem dX4_takesPerson_31 : decode cX4_takesPerson 31 = .ok (.aload_n 0, 1) := by decide +kernel
theorem dX4_takesPerson_32 : decode cX4_takesPerson 32 = .ok (.dup, 1) := by decide +kernel
theorem dX4_takesPerson_33 : decode cX4_takesPerson 33 = .ok (.getfield 40, 3) := by decide +kernel
theorem dX4_takesPerson_36 : decode cX4_takesPerson 36 = .ok (.iload_n 1, 1) := by decide +kernel
theorem dX4_takesPerson_37 : decode cX4_takesPerson 37 = .ok (.ior, 1) := by decide +kernel
theorem dX4_takesPerson_38 : decode cX4_takesPerson 38 = .ok (.putfield 40, 3) := by decide +kernel
theorem dX4_takesPerson_41 : decode cX4_takesPerson 41 = .ok (.goto 13, 3) := by decide +kernel
theorem dX4_takesPerson_44 : decode cX4_takesPerson 44 = .ok (.aload_n 0, 1) := by decide +kernel
theorem dX4_takesPerson_45 : decode cX4_takesPerson 45 = .ok (.dup, 1) := by decide +kernel
theorem dX4_takesPerson_46 : decode cX4_takesPerson 46 = .ok (.getfield 46, 3) := by decide +kernel
theorem dX4_takesPerson_49 : decode cX4_takesPerson 49 = .ok (.iload_n 1, 1) := by decide +kernel
theorem dX4_takesPerson_50 : decode cX4_takesPerson 50 = .ok (.ior, 1) := by decide +kernel
theorem dX4_takesPerson_51 : decode cX4_takesPerson 51 = .ok (.putfield 46, 3) := by decide +kernel
theorem dX4_takesPerson_54 : decode cX4_takesPerson 54 = .ok (.iconst 1, 1) := by decide +kernel
theorem dX4_takesPerson_55 : decode cX4_takesPerson 55 = .ok (.ireturn, 1) := by decide +kernel
set_option maxRecDepth 20000 in
theorem ggX5_init_X0_init : GoodIn wsX5_init wsX0_init := goodIn_r _ [29, 30, 2, 3, 31, 32, 54] (by decide +kernel) (by decide +kernel)
set_option maxRecDepth 20000 in
theorem gX5_init_X0_init : GoodIn wsX5_init (wsX0_init) := ggX5_init_X0_init
set_option maxRecDepth 20000 in
theorem ggX5_init_X1_init : GoodIn wsX5_init wsX1_init := goodIn_r _ [34, 35, 2, 3, 31, 36, 63, 64, 65] (by decide +kernel) (by decide +kernel)
set_option maxRecDepth 20000 in
theorem gX5_init_X1_init_n24 : GoodIn wsX5_init (wsX1_init) := ggX5_init_X1_init
set_option maxRecDepth 20000 in
theorem ggX5_init_X4_init : GoodIn wsX5_init wsX4_init := goodIn_r _ [38, 39, 2, 3, 40, 41, 31, 42, 66, 67, 68, 69, 70, 71] (by decide +kernel) (by decide +kernel)
set_option maxRecDepth 20000 in
theorem gX5_init_X4_init_n31 : GoodIn wsX5_init (wsX4_init) := ggX5_init_X4_init
set_option maxRecDepth 20000 in
theorem ggX5_init_X2_init : GoodIn wsX5_init wsX2_init := goodIn_r _ [44, 45, 2, 3, 31, 46, 47, 48, 49, 72, 73, 74, 75, 76] (by decide +kernel) (by decide +kernel)
set_option maxRecDepth 20000 in
theorem gX5_init_X2_init_n38 : GoodIn wsX5_init (wsX2_init) := ggX5_init_X2_init
set_option maxRecDepth 20000 in
theorem ggX5_init_X3_init : GoodIn wsX5_init wsX3_init := goodIn_r _ [51, 52, 2, 3, 31, 53, 77] (by decide +kernel) (by decide +kernel)
set_option maxRecDepth 20000 in
theorem gX5_init_X3_init_n45 : GoodIn wsX5_init (wsX3_init) := ggX5_init_X3_init
theorem dX5_init_0 : decode cX5_init 0 = .ok (.aload_n 0, 1) := by decide +kernel
theorem dX5_init_1 : decode cX5_init 1 = .ok (.invokespecial 3, 3) := by decide +kernel
theorem dX5_init_4 : decode cX5_init 4 = .ok (.aload_n 0, 1) := by decide +kernel
theorem dX5_init_5 : decode cX5_init 5 = .ok (.new 9, 3) := by decide +kernel
theorem dX5_init_8 : decode cX5_init 8 = .ok (.dup, 1) := by decide +kernel
theorem dX5_init_9 : decode cX5_init 9 = .ok (.invokespecial 11, 3) := by decide +kernel
theorem dX5_init_12 : decode cX5_init 12 = .ok (.putfield 12, 3) := by decide +kernel
theorem dX5_init_15 : decode cX5_init 15 = .ok (.aload_n 0, 1) := by decide +kernel
theorem dX5_init_16 : decode cX5_init 16 = .ok (.new 9, 3) := by decide +kernel
theorem dX5_init_19 : decode cX5_init 19 = .ok (.dup, 1) := by decide +kernel
theorem dX5_init_20 : decode cX5_init 20 = .ok (.invokespecial 11, 3) := by decide +kernel
theorem dX5_init_23 : decode cX5_init 23 = .ok (.putfield 16, 3) := by decide +kernel
theorem dX5_init_26 : decode cX5_init 26 = .ok (.aload_n 0, 1) := by decide +kernel
theorem dX5_init_27 : decode cX5_init 27 = .ok (.new 9, 3) := by decide +kernel
theorem dX5_init_30 : decode cX5_init 30 = .ok (.dup, 1) := by decide +kernel
theorem dX5_init_31 : decode cX5_init 31 = .ok (.invokespecial 11, 3) := by decide +kernel
theorem dX5_init_34 : decode cX5_init 34 = .ok (.putfield 19, 3) := by decide +kernel
theorem dX5_init_37 : decode cX5_init 37 = .ok (.aload_n 0, 1) := by decide +kernel
theorem dX5_init_38 : decode cX5_init 38 = .ok (.new 22, 3) := by decide +kernel
theorem dX5_init_41 : decode cX5_init 41 = .ok (.dup, 1) := by decide +kernel
theorem dX5_init_42 : decode cX5_init 42 = .ok (.invokespecial 24, 3) := by decide +kernel
theorem dX5_init_45 : decode cX5_init 45 = .ok (.putfield 25, 3) := by decide +kernel
theorem dX5_init_48 : decode cX5_init 48 = .ok (.aload_n 0, 1) := by decide +kernel
theorem dX5_init_49 : decode cX5_init 49 = .ok (.new 29, 3) := by decide +kernel
theorem dX5_init_52 : decode cX5_init 52 = .ok (.dup, 1) := by decide +kernel
theorem dX5_init_53 : decode cX5_init 53 = .ok (.invokespecial 31, 3) := by decide +kernel
theorem dX5_init_56 : decode cX5_init 56 = .ok (.putfield 32, 3) := by decide +kernel
theorem dX5_init_59 : decode cX5_init 59 = .ok (.aload_n 0, 1) := by decide +kernel
theorem dX5_init_60 : decode cX5_init 60 = .ok (.new 36, 3) := by decide +kernel
theorem dX5_init_63 : decode cX5_init 63 = .ok (.dup, 1) := by decide +kernel
theorem dX5_init_64 : decode cX5_init 64 = .ok (.invokespecial 38, 3) := by decide +kernel
theorem dX5_init_67 : decode cX5_init 67 = .ok (.putfield 39, 3) := by decide +kernel
theorem dX5_init_70 : decode cX5_init 70 = .ok (.aload_n 0, 1) := by decide +kernel
theorem dX5_init_71 : decode cX5_init 71 = .ok (.new 43, 3) := by decide +kernel
theorem dX5_init_74 : decode cX5_init 74 = .ok (.dup, 1) := by decide +kernel
theorem dX5_init_75 : decode cX5_init 75 = .ok (.invokespecial 45, 3) := by decide +kernel
theorem dX5_init_78 : decode cX5_init 78 = .ok (.putfield 46, 3) := by decide +kernel
theorem dX5_init_81 : decode cX5_init 81 = .ok (.aload_n 0, 1) := by decide +kernel
theorem dX5_init_82 : decode cX5_init 82 = .ok (.iconst 0, 1) := by decide +kernel
theorem dX5_init_83 : decode cX5_init 83 = .ok (.putfield 50, 3) := by decide +kernel
theorem dX5_init_86 : decode cX5_init 86 = .ok (.return_, 1) := by decide +kernel
set_option maxRecDepth 20000 in
theorem ggX5_wish_X5_arePeople : GoodIn wsX5_wish wsX5_arePeople := goodIn_r _ [6, 7, 8, 5, 9] (by decide +kernel) (by decide +kernel)
set_option maxRecDepth 20000 in
theorem gX5_wish_X5_arePeople : GoodIn wsX5_wish (va_wsS RX5 54 yX5_arePeople wsX5_arePeople) := goodIn_app (goodIn_of _ (by decide +kernel)) ggX5_wish_X5_arePeople
set_option maxRecDepth 20000 in
theorem ggX5_wish_X0_hasWish : GoodIn wsX5_wish wsX0_hasWish := goodIn_r _ [14, 15, 16, 5, 17, 61] (by decide +kernel) (by decide +kernel)
set_option maxRecDepth 20000 in
theorem gX5_wish_X0_hasWish : GoodIn wsX5_wish (wsV RX5 58 RX0 yX0_hasWish wsX0_hasWish) := goodIn_app (goodIn_of _ (by decide +kernel)) ggX5_wish_X0_hasWish
set_option maxRecDepth 20000 in
theorem ggX5_wish_X1_keep : GoodIn wsX5_wish wsX1_keep := goodIn_r _ [22, 23, 24, 25, 26, 27, 28, 29, 30, 31, 32, 21, 33, 62, 63, 64, 61] (by decide +kernel) (by decide +kernel)
set_option maxRecDepth 20000 in
theorem gX5_wish_X1_keep : GoodIn wsX5_wish (wsV RX5 61 RX1 yX1_keep wsX1_keep) := goodIn_app (goodIn_of _ (by decide +kernel)) ggX5_wish_X1_keep
set_option maxRecDepth 20000 in
theorem ggX5_wish_X0_openWish : GoodIn wsX5_wish wsX0_openWish := goodIn_r _ [37, 38, 39, 40, 13, 41, 15, 61] (by decide +kernel) (by decide +kernel)
set_option maxRecDepth 20000 in
theorem gX5_wish_X0_openWish : GoodIn wsX5_wish (wsV RX5 65 RX0 yX0_openWish wsX0_openWish) := goodIn_app (goodIn_of _ (by decide +kernel)) ggX5_wish_X0_openWish
set_option maxRecDepth 20000 in
theorem ggX5_wish_X0_numberOfWishes : GoodIn wsX5_wish wsX0_numberOfWishes := goodIn_r _ [45, 15, 46, 47, 48, 49, 50, 51, 52, 61] (by decide +kernel) (by decide +kernel)
set_option maxRecDepth 20000 in
theorem gX5_wish_X0_numberOfWishes : GoodIn wsX5_wish (wsV RX5 69 RX0 yX0_numberOfWishes wsX0_numberOfWishes) := goodIn_app (goodIn_of _ (by decide +kernel)) ggX5_wish_X0_numberOfWishes
theorem dX5_wish_0 : decode cX5_wish 0 = .ok (.iload_n 1, 1) := by decide +kernel
theorem dX5_wish_1 : decode cX5_wish 1 = .ok (.iload_n 2, 1) := by decide +kernel
theorem dX5_wish_2 : decode cX5_wish 2 = .ok (.invokestatic 54, 3) := by decide +kernel
theorem dX5_wish_5 : decode cX5_wish 5 = .ok (.ifCond .ne 5, 3) := by decide +kernel
theorem dX5_wish_8 : decode cX5_wish 8 = .ok (.iconst (-1), 1) := by decide +kernel
theorem dX5_wish_9 : decode cX5_wish 9 = .ok (.ireturn, 1) := by decide +kernel
theorem dX5_wish_10 : decode cX5_wish 10 = .ok (.aload_n 0, 1) := by decide +kernel
theorem dX5_wish_11 : decode cX5_wish 11 = .ok (.getfield 12, 3) := by decide +kernel
theorem dX5_wish_14 : decode cX5_wish 14 = .ok (.iload_n 1, 1) := by decide +kernel
theorem dX5_wish_15 : decode cX5_wish 15 = .ok (.iload_n 2, 1) := by decide +kernel
theorem dX5_wish_16 : decode cX5_wish 16 = .ok (.invokevirtual 58, 3) := by decide +kernel
theorem dX5_wish_19 : decode cX5_wish 19 = .ok (.ifCond .eq 6, 3) := by decide +kernel
theorem dX5_wish_22 : decode cX5_wish 22 = .ok (.bipush (-4), 2) := by decide +kernel
theorem dX5_wish_24 : decode cX5_wish 24 = .ok (.ireturn, 1) := by decide +kernel
theorem dX5_wish_25 : decode cX5_wish 25 = .ok (.aload_n 0, 1) := by decide +kernel
theorem dX5_wish_26 : decode cX5_wish 26 = .ok (.getfield 25, 3) := by decide +kernel
theorem dX5_wish_29 : decode cX5_wish 29 = .ok (.aload_n 0, 1) := by decide +kernel
theorem dX5_wish_30 : decode cX5_wish 30 = .ok (.getfield 12, 3) := by decide +kernel
theorem dX5_wish_33 : decode cX5_wish 33 = .ok (.invokevirtual 61, 3) := by decide +kernel
theorem dX5_wish_36 : decode cX5_wish 36 = .ok (.aload_n 0, 1) := by decide +kernel
theorem dX5_wish_37 : decode cX5_wish 37 = .ok (.getfield 12, 3) := by decide +kernel
theorem dX5_wish_40 : decode cX5_wish 40 = .ok (.iload_n 1, 1) := by decide +kernel
theorem dX5_wish_41 : decode cX5_wish 41 = .ok (.iload_n 2, 1) := by decide +kernel
theorem dX5_wish_42 : decode cX5_wish 42 = .ok (.invokevirtual 65, 3) := by decide +kernel
theorem dX5_wish_45 : decode cX5_wish 45 = .ok (.aload_n 0, 1) := by decide +kernel
theorem dX5_wish_46 : decode cX5_wish 46 = .ok (.getfield 12, 3) := by decide +kernel
theorem dX5_wish_49 : decode cX5_wish 49 = .ok (.invokevirtual 69, 3) := by decide +kernel
theorem dX5_wish_52 : decode cX5_wish 52 = .ok (.ireturn, 1) := by decide +kernel
set_option maxRecDepth 20000 in
theorem ggX5_withdraw_X5_arePeople : GoodIn wsX5_withdraw wsX5_arePeople := goodIn_r _ [6, 7, 8, 5, 9] (by decide +kernel) (by decide +kernel)
set_option maxRecDepth 20000 in
theorem gX5_withdraw_X5_arePeople : GoodIn wsX5_withdraw (va_wsS RX5 54 yX5_arePeople wsX5_arePeople) := goodIn_app (goodIn_of _ (by decide +kernel)) ggX5_withdraw_X5_arePeople
set_option maxRecDepth 20000 in
theorem ggX5_withdraw_X0_hasWish : GoodIn wsX5_withdraw wsX0_hasWish := goodIn_r _ [14, 15, 16, 5, 17, 57] (by decide +kernel) (by decide +kernel)
set_option maxRecDepth 20000 in
theorem gX5_withdraw_X0_hasWish : GoodIn wsX5_withdraw (wsV RX5 58 RX0 yX0_hasWish wsX0_hasWish) := goodIn_app (goodIn_of _ (by decide +kernel)) ggX5_withdraw_X0_hasWish
