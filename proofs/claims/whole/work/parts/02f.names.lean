set_option maxRecDepth 20000 in
theorem gX5_count_X0_amountOfAll : GoodIn wsX5_count (wsV RX5 178 RX0 yX0_amountOfAll wsX0_amountOfAll) := goodIn_app (goodIn_of _ (by decide +kernel)) ggX5_count_X0_amountOfAll
set_option maxRecDepth 20000 in
theorem ggX5_count_X0_linkedPairsOfGates : GoodIn wsX5_count wsX0_linkedPairsOfGates := goodIn_r _ [61, 9, 10, 11, 12, 13, 14, 15, 16, 137] (by decide +kernel) (by decide +kernel)
set_option maxRecDepth 20000 in
theorem gX5_count_X0_linkedPairsOfGates : GoodIn wsX5_count (wsV RX5 181 RX0 yX0_linkedPairsOfGates wsX0_linkedPairsOfGates) := goodIn_app (goodIn_of _ (by decide +kernel)) ggX5_count_X0_linkedPairsOfGates
set_option maxRecDepth 20000 in
theorem ggX5_count_X0_roundsSoFar : GoodIn wsX5_count wsX0_roundsSoFar := goodIn_r _ [65, 9, 137] (by decide +kernel) (by decide +kernel)
set_option maxRecDepth 20000 in
theorem gX5_count_X0_roundsSoFar : GoodIn wsX5_count (wsV RX5 184 RX0 yX0_roundsSoFar wsX0_roundsSoFar) := goodIn_app (goodIn_of _ (by decide +kernel)) ggX5_count_X0_roundsSoFar
set_option maxRecDepth 20000 in
theorem ggX5_count_X5_greatestSize : GoodIn wsX5_count wsX5_greatestSize := goodIn_r _ [69, 70, 71, 72, 73, 74, 75, 76, 77, 78, 79, 80, 81, 82, 83, 39, 40, 7, 41, 29, 30, 31, 32, 9, 33, 34, 35, 42, 43, 44, 45, 46, 47, 48, 49, 50, 51, 52, 53, 84, 85, 86, 87, 88, 89, 90, 91, 92, 93, 94, 95, 96, 97, 98, 99, 100, 101, 102, 103, 104, 105, 106, 107, 36, 37, 129, 130, 131, 132, 133, 134, 135, 136, 138, 139, 140, 141, 142, 137] (by decide +kernel) (by decide +kernel)
set_option maxRecDepth 20000 in
theorem gX5_count_X5_greatestSize : GoodIn wsX5_count (wsV RX5 187 RX5 yX5_greatestSize wsX5_greatestSize) := goodIn_app (goodIn_of _ (by decide +kernel)) ggX5_count_X5_greatestSize
set_option maxRecDepth 20000 in
theorem ggX5_count_X5_mostPossibleOfAPerson : GoodIn wsX5_count wsX5_mostPossibleOfAPerson := goodIn_r _ [111, 1, 112, 113, 114, 115, 116, 22, 23, 7, 24, 25, 26, 27, 28, 29, 30, 31, 32, 9, 33, 34, 35, 36, 37, 38, 39, 40, 41, 42, 43, 44, 45, 46, 47, 48, 49, 50, 51, 52, 53, 54, 55, 56, 57, 129, 130, 131, 132, 133, 134, 135, 136, 137] (by decide +kernel) (by decide +kernel)
set_option maxRecDepth 20000 in
theorem gX5_count_X5_mostPossibleOfAPerson : GoodIn wsX5_count (wsV RX5 190 RX5 yX5_mostPossibleOfAPerson wsX5_mostPossibleOfAPerson) := goodIn_app (goodIn_of _ (by decide +kernel)) ggX5_count_X5_mostPossibleOfAPerson
set_option maxRecDepth 20000 in
theorem ggX5_count_X1_size : GoodIn wsX5_count wsX1_size := goodIn_r _ [121, 122, 143, 144, 145] (by decide +kernel) (by decide +kernel)
set_option maxRecDepth 20000 in
theorem gX5_count_X1_size : GoodIn wsX5_count (wsV RX5 138 RX1 yX1_size wsX1_size) := goodIn_app (goodIn_of _ (by decide +kernel)) ggX5_count_X1_size
set_option maxRecDepth 20000 in
theorem ggX5_count_X4_length : GoodIn wsX5_count wsX4_length := goodIn_r _ [127, 128, 146, 147, 148, 149, 150, 151] (by decide +kernel) (by decide +kernel)
set_option maxRecDepth 20000 in
theorem gX5_count_X4_length : GoodIn wsX5_count (wsV RX5 122 RX4 yX4_length wsX4_length) := goodIn_app (goodIn_of _ (by decide +kernel)) ggX5_count_X4_length
theorem dX5_count_0 : decode cX5_count 0 = .ok (.iload_n 1, 1) := by decide +kernel
theorem dX5_count_1 : decode cX5_count 1 = .ok (.tableswitch 136 0 9 #[55, 63, 72, 81, 89, 97, 106, 115, 120, 128], 55) := by decide +kernel
theorem dX5_count_56 : decode cX5_count 56 = .ok (.aload_n 0, 1) := by decide +kernel
theorem dX5_count_57 : decode cX5_count 57 = .ok (.getfield 12, 3) := by decide +kernel
theorem dX5_count_60 : decode cX5_count 60 = .ok (.invokevirtual 69, 3) := by decide +kernel
theorem dX5_count_63 : decode cX5_count 63 = .ok (.ireturn, 1) := by decide +kernel
theorem dX5_count_64 : decode cX5_count 64 = .ok (.aload_n 0, 1) := by decide +kernel
theorem dX5_count_65 : decode cX5_count 65 = .ok (.getfield 12, 3) := by decide +kernel
theorem dX5_count_68 : decode cX5_count 68 = .ok (.iconst 2, 1) := by decide +kernel
theorem dX5_count_69 : decode cX5_count 69 = .ok (.invokevirtual 178, 3) := by decide +kernel
theorem dX5_count_72 : decode cX5_count 72 = .ok (.ireturn, 1) := by decide +kernel
theorem dX5_count_73 : decode cX5_count 73 = .ok (.aload_n 0, 1) := by decide +kernel
theorem dX5_count_74 : decode cX5_count 74 = .ok (.getfield 12, 3) := by decide +kernel
theorem dX5_count_77 : decode cX5_count 77 = .ok (.iconst 3, 1) := by decide +kernel
theorem dX5_count_78 : decode cX5_count 78 = .ok (.invokevirtual 178, 3) := by decide +kernel
theorem dX5_count_81 : decode cX5_count 81 = .ok (.ireturn, 1) := by decide +kernel
theorem dX5_count_82 : decode cX5_count 82 = .ok (.aload_n 0, 1) := by decide +kernel
theorem dX5_count_83 : decode cX5_count 83 = .ok (.getfield 12, 3) := by decide +kernel
theorem dX5_count_86 : decode cX5_count 86 = .ok (.invokevirtual 181, 3) := by decide +kernel
theorem dX5_count_89 : decode cX5_count 89 = .ok (.ireturn, 1) := by decide +kernel
theorem dX5_count_90 : decode cX5_count 90 = .ok (.aload_n 0, 1) := by decide +kernel
theorem dX5_count_91 : decode cX5_count 91 = .ok (.getfield 12, 3) := by decide +kernel
theorem dX5_count_94 : decode cX5_count 94 = .ok (.invokevirtual 184, 3) := by decide +kernel
theorem dX5_count_97 : decode cX5_count 97 = .ok (.ireturn, 1) := by decide +kernel
theorem dX5_count_98 : decode cX5_count 98 = .ok (.aload_n 0, 1) := by decide +kernel
theorem dX5_count_99 : decode cX5_count 99 = .ok (.getfield 12, 3) := by decide +kernel
theorem dX5_count_102 : decode cX5_count 102 = .ok (.iconst 4, 1) := by decide +kernel
theorem dX5_count_103 : decode cX5_count 103 = .ok (.invokevirtual 178, 3) := by decide +kernel
theorem dX5_count_106 : decode cX5_count 106 = .ok (.ireturn, 1) := by decide +kernel
theorem dX5_count_107 : decode cX5_count 107 = .ok (.aload_n 0, 1) := by decide +kernel
theorem dX5_count_108 : decode cX5_count 108 = .ok (.aload_n 0, 1) := by decide +kernel
theorem dX5_count_109 : decode cX5_count 109 = .ok (.getfield 12, 3) := by decide +kernel
theorem dX5_count_112 : decode cX5_count 112 = .ok (.invokevirtual 187, 3) := by decide +kernel
theorem dX5_count_115 : decode cX5_count 115 = .ok (.ireturn, 1) := by decide +kernel
theorem dX5_count_116 : decode cX5_count 116 = .ok (.aload_n 0, 1) := by decide +kernel
theorem dX5_count_117 : decode cX5_count 117 = .ok (.invokevirtual 190, 3) := by decide +kernel
theorem dX5_count_120 : decode cX5_count 120 = .ok (.ireturn, 1) := by decide +kernel
theorem dX5_count_121 : decode cX5_count 121 = .ok (.aload_n 0, 1) := by decide +kernel
theorem dX5_count_122 : decode cX5_count 122 = .ok (.getfield 25, 3) := by decide +kernel
theorem dX5_count_125 : decode cX5_count 125 = .ok (.invokevirtual 138, 3) := by decide +kernel
theorem dX5_count_128 : decode cX5_count 128 = .ok (.ireturn, 1) := by decide +kernel
theorem dX5_count_129 : decode cX5_count 129 = .ok (.aload_n 0, 1) := by decide +kernel
theorem dX5_count_130 : decode cX5_count 130 = .ok (.getfield 32, 3) := by decide +kernel
theorem dX5_count_133 : decode cX5_count 133 = .ok (.invokevirtual 122, 3) := by decide +kernel
theorem dX5_count_136 : decode cX5_count 136 = .ok (.ireturn, 1) := by decide +kernel
theorem dX5_count_137 : decode cX5_count 137 = .ok (.bipush (-2), 2) := by decide +kernel
theorem dX5_count_139 : decode cX5_count 139 = .ok (.ireturn, 1) := by decide +kernel
set_option maxRecDepth 20000 in
theorem ggX5_doneIn_X0_hasWishOverUnlinkedGates : GoodIn wsX5_doneIn wsX0_hasWishOverUnlinkedGates := goodIn_r _ [7, 8, 9, 10, 6, 11, 12, 13, 14, 15, 16, 17, 18, 19, 127] (by decide +kernel) (by decide +kernel)
set_option maxRecDepth 20000 in
theorem gX5_doneIn_X0_hasWishOverUnlinkedGates : GoodIn wsX5_doneIn (wsV RX5 193 RX0 yX0_hasWishOverUnlinkedGates wsX0_hasWishOverUnlinkedGates) := goodIn_app (goodIn_of _ (by decide +kernel)) ggX5_doneIn_X0_hasWishOverUnlinkedGates
set_option maxRecDepth 20000 in
theorem ggX5_doneIn_X0_copyFrom : GoodIn wsX5_doneIn wsX0_copyFrom := goodIn_r _ [23, 12, 24, 25, 26, 27, 127] (by decide +kernel) (by decide +kernel)
set_option maxRecDepth 20000 in
theorem gX5_doneIn_X0_copyFrom : GoodIn wsX5_doneIn (wsV RX5 144 RX0 yX0_copyFrom wsX0_copyFrom) := goodIn_app (goodIn_of _ (by decide +kernel)) ggX5_doneIn_X0_copyFrom
set_option maxRecDepth 20000 in
theorem ggX5_doneIn_X0_numberOfWishes : GoodIn wsX5_doneIn wsX0_numberOfWishes := goodIn_r _ [31, 12, 32, 33, 34, 35, 36, 37, 38, 127] (by decide +kernel) (by decide +kernel)
set_option maxRecDepth 20000 in
theorem gX5_doneIn_X0_numberOfWishes : GoodIn wsX5_doneIn (wsV RX5 69 RX0 yX0_numberOfWishes wsX0_numberOfWishes) := goodIn_app (goodIn_of _ (by decide +kernel)) ggX5_doneIn_X0_numberOfWishes
set_option maxRecDepth 20000 in
theorem ggX5_doneIn_X5_makeRound : GoodIn wsX5_doneIn wsX5_makeRound := goodIn_r _ [42, 43, 44, 45, 46, 47, 48, 49, 50, 51, 52, 53, 54, 55, 56, 57, 58, 59, 60, 61, 62, 6, 63, 8, 9, 10, 11, 12, 13, 14, 15, 64, 65, 66, 67, 68, 69, 70, 71, 16, 17, 18, 19, 72, 73, 74, 75, 76, 77, 78, 79, 80, 81, 82, 83, 84, 85, 86, 87, 88, 89, 90, 91, 92, 93, 94, 95, 96, 97, 98, 99, 100, 101, 102, 103, 104, 105, 106, 107, 108, 109, 110, 111, 112, 113, 114, 115, 116, 117, 118, 119, 120, 121, 122, 123, 124, 125, 126, 128, 129, 130, 131, 132, 127] (by decide +kernel) (by decide +kernel)
set_option maxRecDepth 20000 in
theorem gX5_doneIn_X5_makeRound : GoodIn wsX5_doneIn (wsV RX5 110 RX5 yX5_makeRound wsX5_makeRound) := goodIn_app (goodIn_of _ (by decide +kernel)) ggX5_doneIn_X5_makeRound
theorem dX5_doneIn_0 : decode cX5_doneIn 0 = .ok (.aload_n 0, 1) := by decide +kernel
theorem dX5_doneIn_1 : decode cX5_doneIn 1 = .ok (.getfield 12, 3) := by decide +kernel
theorem dX5_doneIn_4 : decode cX5_doneIn 4 = .ok (.invokevirtual 193, 3) := by decide +kernel
theorem dX5_doneIn_7 : decode cX5_doneIn 7 = .ok (.ifCond .eq 6, 3) := by decide +kernel
theorem dX5_doneIn_10 : decode cX5_doneIn 10 = .ok (.bipush (-5), 2) := by decide +kernel
theorem dX5_doneIn_12 : decode cX5_doneIn 12 = .ok (.ireturn, 1) := by decide +kernel
theorem dX5_doneIn_13 : decode cX5_doneIn 13 = .ok (.aload_n 0, 1) := by decide +kernel
theorem dX5_doneIn_14 : decode cX5_doneIn 14 = .ok (.getfield 16, 3) := by decide +kernel
theorem dX5_doneIn_17 : decode cX5_doneIn 17 = .ok (.aload_n 0, 1) := by decide +kernel
theorem dX5_doneIn_18 : decode cX5_doneIn 18 = .ok (.getfield 12, 3) := by decide +kernel
theorem dX5_doneIn_21 : decode cX5_doneIn 21 = .ok (.invokevirtual 144, 3) := by decide +kernel
theorem dX5_doneIn_24 : decode cX5_doneIn 24 = .ok (.iconst 0, 1) := by decide +kernel
theorem dX5_doneIn_25 : decode cX5_doneIn 25 = .ok (.istore_n 1, 1) := by decide +kernel
theorem dX5_doneIn_26 : decode cX5_doneIn 26 = .ok (.iload_n 1, 1) := by decide +kernel
theorem dX5_doneIn_27 : decode cX5_doneIn 27 = .ok (.sipush 200, 3) := by decide +kernel
theorem dX5_doneIn_30 : decode cX5_doneIn 30 = .ok (.if_icmp .gt 30, 3) := by decide +kernel
theorem dX5_doneIn_33 : decode cX5_doneIn 33 = .ok (.aload_n 0, 1) := by decide +kernel
theorem dX5_doneIn_34 : decode cX5_doneIn 34 = .ok (.getfield 16, 3) := by decide +kernel
theorem dX5_doneIn_37 : decode cX5_doneIn 37 = .ok (.invokevirtual 69, 3) := by decide +kernel
theorem dX5_doneIn_40 : decode cX5_doneIn 40 = .ok (.ifCond .ne 5, 3) := by decide +kernel
theorem dX5_doneIn_43 : decode cX5_doneIn 43 = .ok (.iload_n 1, 1) := by decide +kernel
theorem dX5_doneIn_44 : decode cX5_doneIn 44 = .ok (.ireturn, 1) := by decide +kernel
theorem dX5_doneIn_45 : decode cX5_doneIn 45 = .ok (.aload_n 0, 1) := by decide +kernel
theorem dX5_doneIn_46 : decode cX5_doneIn 46 = .ok (.aload_n 0, 1) := by decide +kernel
theorem dX5_doneIn_47 : decode cX5_doneIn 47 = .ok (.getfield 16, 3) := by decide +kernel
theorem dX5_doneIn_50 : decode cX5_doneIn 50 = .ok (.invokevirtual 110, 3) := by decide +kernel
theorem dX5_doneIn_53 : decode cX5_doneIn 53 = .ok (.pop, 1) := by decide +kernel
theorem dX5_doneIn_54 : decode cX5_doneIn 54 = .ok (.iinc 1 1, 3) := by decide +kernel
theorem dX5_doneIn_57 : decode cX5_doneIn 57 = .ok (.goto (-31), 3) := by decide +kernel
theorem dX5_doneIn_60 : decode cX5_doneIn 60 = .ok (.bipush (-5), 2) := by decide +kernel
theorem dX5_doneIn_62 : decode cX5_doneIn 62 = .ok (.ireturn, 1) := by decide +kernel
set_option maxRecDepth 20000 in
theorem ggX5_bestLink_X5_greatestSize : GoodIn wsX5_bestLink wsX5_greatestSize := goodIn_r _ [7, 8, 9, 10, 11, 12, 13, 14, 15, 16, 17, 18, 19, 20, 21, 22, 23, 24, 25, 26, 27, 28, 29, 30, 31, 6, 32, 33, 34, 35, 36, 37, 38, 39, 40, 41, 42, 43, 44, 45, 46, 47, 48, 49, 50, 51, 52, 53, 54, 55, 56, 57, 58, 59, 60, 61, 62, 63, 64, 65, 66, 67, 68, 69, 70, 87, 88, 89, 90, 91, 92, 93, 94, 95, 96, 97, 98, 99, 100] (by decide +kernel) (by decide +kernel)
set_option maxRecDepth 20000 in
theorem gX5_bestLink_X5_greatestSize : GoodIn wsX5_bestLink (wsV RX5 187 RX5 yX5_greatestSize wsX5_greatestSize) := goodIn_app (goodIn_of _ (by decide +kernel)) ggX5_bestLink_X5_greatestSize
set_option maxRecDepth 20000 in
theorem ggX5_bestLink_X0_copyFrom : GoodIn wsX5_bestLink wsX0_copyFrom := goodIn_r _ [74, 30, 75, 76, 77, 78, 100] (by decide +kernel) (by decide +kernel)
set_option maxRecDepth 20000 in
theorem gX5_bestLink_X0_copyFrom : GoodIn wsX5_bestLink (wsV RX5 144 RX0 yX0_copyFrom wsX0_copyFrom) := goodIn_app (goodIn_of _ (by decide +kernel)) ggX5_bestLink_X0_copyFrom
set_option maxRecDepth 20000 in
theorem ggX5_bestLink_X0_areLinked : GoodIn wsX5_bestLink wsX0_areLinked := goodIn_r _ [82, 30, 31, 6, 32, 100] (by decide +kernel) (by decide +kernel)
set_option maxRecDepth 20000 in
theorem gX5_bestLink_X0_areLinked : GoodIn wsX5_bestLink (wsV RX5 88 RX0 yX0_areLinked wsX0_areLinked) := goodIn_app (goodIn_of _ (by decide +kernel)) ggX5_bestLink_X0_areLinked
set_option maxRecDepth 20000 in
theorem ggX5_bestLink_X0_setLinked : GoodIn wsX5_bestLink wsX0_setLinked := goodIn_r _ [86, 30, 100] (by decide +kernel) (by decide +kernel)
set_option maxRecDepth 20000 in
theorem gX5_bestLink_X0_setLinked : GoodIn wsX5_bestLink (wsV RX5 95 RX0 yX0_setLinked wsX0_setLinked) := goodIn_app (goodIn_of _ (by decide +kernel)) ggX5_bestLink_X0_setLinked
theorem dX5_bestLink_0 : decode cX5_bestLink 0 = .ok (.aload_n 0, 1) := by decide +kernel
theorem dX5_bestLink_1 : decode cX5_bestLink 1 = .ok (.aload_n 0, 1) := by decide +kernel
theorem dX5_bestLink_2 : decode cX5_bestLink 2 = .ok (.getfield 12, 3) := by decide +kernel
theorem dX5_bestLink_5 : decode cX5_bestLink 5 = .ok (.invokevirtual 187, 3) := by decide +kernel
theorem dX5_bestLink_8 : decode cX5_bestLink 8 = .ok (.istore_n 1, 1) := by decide +kernel
theorem dX5_bestLink_9 : decode cX5_bestLink 9 = .ok (.bipush (-5), 2) := by decide +kernel
theorem dX5_bestLink_11 : decode cX5_bestLink 11 = .ok (.istore_n 2, 1) := by decide +kernel
theorem dX5_bestLink_12 : decode cX5_bestLink 12 = .ok (.aload_n 0, 1) := by decide +kernel
theorem dX5_bestLink_13 : decode cX5_bestLink 13 = .ok (.getfield 16, 3) := by decide +kernel
theorem dX5_bestLink_16 : decode cX5_bestLink 16 = .ok (.aload_n 0, 1) := by decide +kernel
theorem dX5_bestLink_17 : decode cX5_bestLink 17 = .ok (.getfield 12, 3) := by decide +kernel
theorem dX5_bestLink_20 : decode cX5_bestLink 20 = .ok (.invokevirtual 144, 3) := by decide +kernel
theorem dX5_bestLink_23 : decode cX5_bestLink 23 = .ok (.iconst 0, 1) := by decide +kernel
theorem dX5_bestLink_24 : decode cX5_bestLink 24 = .ok (.istore_n 3, 1) := by decide +kernel
theorem dX5_bestLink_25 : decode cX5_bestLink 25 = .ok (.iload_n 3, 1) := by decide +kernel
theorem dX5_bestLink_26 : decode cX5_bestLink 26 = .ok (.iconst 4, 1) := by decide +kernel
theorem dX5_bestLink_27 : decode cX5_bestLink 27 = .ok (.if_icmp .ge 88, 3) := by decide +kernel
theorem dX5_bestLink_30 : decode cX5_bestLink 30 = .ok (.iconst 0, 1) := by decide +kernel
theorem dX5_bestLink_31 : decode cX5_bestLink 31 = .ok (.istore 4, 2) := by decide +kernel
theorem dX5_bestLink_33 : decode cX5_bestLink 33 = .ok (.iload 4, 2) := by decide +kernel
theorem dX5_bestLink_35 : decode cX5_bestLink 35 = .ok (.iconst 4, 1) := by decide +kernel
theorem dX5_bestLink_36 : decode cX5_bestLink 36 = .ok (.if_icmp .ge 73, 3) := by decide +kernel
theorem dX5_bestLink_39 : decode cX5_bestLink 39 = .ok (.aload_n 0, 1) := by decide +kernel
theorem dX5_bestLink_40 : decode cX5_bestLink 40 = .ok (.getfield 12, 3) := by decide +kernel
theorem dX5_bestLink_43 : decode cX5_bestLink 43 = .ok (.iload_n 3, 1) := by decide +kernel
theorem dX5_bestLink_44 : decode cX5_bestLink 44 = .ok (.iload 4, 2) := by decide +kernel
theorem dX5_bestLink_46 : decode cX5_bestLink 46 = .ok (.invokevirtual 88, 3) := by decide +kernel
theorem dX5_bestLink_49 : decode cX5_bestLink 49 = .ok (.ifCond .eq 6, 3) := by decide +kernel
theorem dX5_bestLink_52 : decode cX5_bestLink 52 = .ok (.goto 51, 3) := by decide +kernel
theorem dX5_bestLink_55 : decode cX5_bestLink 55 = .ok (.aload_n 0, 1) := by decide +kernel
theorem dX5_bestLink_56 : decode cX5_bestLink 56 = .ok (.getfield 16, 3) := by decide +kernel
theorem dX5_bestLink_59 : decode cX5_bestLink 59 = .ok (.iload_n 3, 1) := by decide +kernel
theorem dX5_bestLink_60 : decode cX5_bestLink 60 = .ok (.iload 4, 2) := by decide +kernel
theorem dX5_bestLink_62 : decode cX5_bestLink 62 = .ok (.iconst 1, 1) := by decide +kernel
theorem dX5_bestLink_63 : decode cX5_bestLink 63 = .ok (.invokevirtual 95, 3) := by decide +kernel
theorem dX5_bestLink_66 : decode cX5_bestLink 66 = .ok (.aload_n 0, 1) := by decide +kernel
theorem dX5_bestLink_67 : decode cX5_bestLink 67 = .ok (.aload_n 0, 1) := by decide +kernel
theorem dX5_bestLink_68 : decode cX5_bestLink 68 = .ok (.getfield 16, 3) := by decide +kernel
theorem dX5_bestLink_71 : decode cX5_bestLink 71 = .ok (.invokevirtual 187, 3) := by decide +kernel
theorem dX5_bestLink_74 : decode cX5_bestLink 74 = .ok (.istore 5, 2) := by decide +kernel
theorem dX5_bestLink_76 : decode cX5_bestLink 76 = .ok (.aload_n 0, 1) := by decide +kernel
theorem dX5_bestLink_77 : decode cX5_bestLink 77 = .ok (.getfield 16, 3) := by decide +kernel
theorem dX5_bestLink_80 : decode cX5_bestLink 80 = .ok (.iload_n 3, 1) := by decide +kernel
theorem dX5_bestLink_81 : decode cX5_bestLink 81 = .ok (.iload 4, 2) := by decide +kernel
theorem dX5_bestLink_83 : decode cX5_bestLink 83 = .ok (.iconst 0, 1) := by decide +kernel
theorem dX5_bestLink_84 : decode cX5_bestLink 84 = .ok (.invokevirtual 95, 3) := by decide +kernel
theorem dX5_bestLink_87 : decode cX5_bestLink 87 = .ok (.iload 5, 2) := by decide +kernel
theorem dX5_bestLink_89 : decode cX5_bestLink 89 = .ok (.iload_n 1, 1) := by decide +kernel
theorem dX5_bestLink_90 : decode cX5_bestLink 90 = .ok (.if_icmp .le 13, 3) := by decide +kernel
theorem dX5_bestLink_93 : decode cX5_bestLink 93 = .ok (.iload 5, 2) := by decide +kernel
theorem dX5_bestLink_95 : decode cX5_bestLink 95 = .ok (.istore_n 1, 1) := by decide +kernel
theorem dX5_bestLink_96 : decode cX5_bestLink 96 = .ok (.iconst 4, 1) := by decide +kernel
theorem dX5_bestLink_97 : decode cX5_bestLink 97 = .ok (.iload_n 3, 1) := by decide +kernel
theorem dX5_bestLink_98 : decode cX5_bestLink 98 = .ok (.imul, 1) := by decide +kernel
theorem dX5_bestLink_99 : decode cX5_bestLink 99 = .ok (.iload 4, 2) := by decide +kernel
theorem dX5_bestLink_101 : decode cX5_bestLink 101 = .ok (.iadd, 1) := by decide +kernel
theorem dX5_bestLink_102 : decode cX5_bestLink 102 = .ok (.istore_n 2, 1) := by decide +kernel
theorem dX5_bestLink_103 : decode cX5_bestLink 103 = .ok (.iinc 4 1, 3) := by decide +kernel
theorem dX5_bestLink_106 : decode cX5_bestLink 106 = .ok (.goto (-73), 3) := by decide +kernel
theorem dX5_bestLink_109 : decode cX5_bestLink 109 = .ok (.iinc 3 1, 3) := by decide +kernel
theorem dX5_bestLink_112 : decode cX5_bestLink 112 = .ok (.goto (-87), 3) := by decide +kernel
theorem dX5_bestLink_115 : decode cX5_bestLink 115 = .ok (.iload_n 2, 1) := by decide +kernel
theorem dX5_bestLink_116 : decode cX5_bestLink 116 = .ok (.ireturn, 1) := by decide +kernel
set_option maxRecDepth 20000 in
theorem ggX5_mean_X0_roundsSoFar : GoodIn wsX5_mean wsX0_roundsSoFar := goodIn_r _ [6, 7, 57] (by decide +kernel) (by decide +kernel)
set_option maxRecDepth 20000 in
theorem gX5_mean_X0_roundsSoFar : GoodIn wsX5_mean (wsV RX5 184 RX0 yX0_roundsSoFar wsX0_roundsSoFar) := goodIn_app (goodIn_of _ (by decide +kernel)) ggX5_mean_X0_roundsSoFar
set_option maxRecDepth 20000 in
theorem ggX5_mean_X0_amountOfAll : GoodIn wsX5_mean wsX0_amountOfAll := goodIn_r _ [11, 12, 13, 14, 5, 15, 16, 17, 18, 19, 20, 21, 22, 23, 7, 24, 25, 26, 27, 28, 29, 30, 31, 32, 33, 34, 35, 36, 37, 38, 39, 40, 41, 42, 43, 44, 45, 46, 47, 48, 57] (by decide +kernel) (by decide +kernel)
set_option maxRecDepth 20000 in
theorem gX5_mean_X0_amountOfAll : GoodIn wsX5_mean (wsV RX5 178 RX0 yX0_amountOfAll wsX0_amountOfAll) := goodIn_app (goodIn_of _ (by decide +kernel)) ggX5_mean_X0_amountOfAll
theorem dX5_mean_0 : decode cX5_mean 0 = .ok (.aload_n 0, 1) := by decide +kernel
theorem dX5_mean_1 : decode cX5_mean 1 = .ok (.getfield 12, 3) := by decide +kernel
theorem dX5_mean_4 : decode cX5_mean 4 = .ok (.invokevirtual 184, 3) := by decide +kernel
theorem dX5_mean_7 : decode cX5_mean 7 = .ok (.istore_n 1, 1) := by decide +kernel
theorem dX5_mean_8 : decode cX5_mean 8 = .ok (.iload_n 1, 1) := by decide +kernel
theorem dX5_mean_9 : decode cX5_mean 9 = .ok (.ifCond .ne 5, 3) := by decide +kernel
theorem dX5_mean_12 : decode cX5_mean 12 = .ok (.dconst 0, 1) := by decide +kernel
theorem dX5_mean_13 : decode cX5_mean 13 = .ok (.dreturn, 1) := by decide +kernel
theorem dX5_mean_14 : decode cX5_mean 14 = .ok (.aload_n 0, 1) := by decide +kernel
theorem dX5_mean_15 : decode cX5_mean 15 = .ok (.getfield 12, 3) := by decide +kernel
theorem dX5_mean_18 : decode cX5_mean 18 = .ok (.iconst 4, 1) := by decide +kernel
theorem dX5_mean_19 : decode cX5_mean 19 = .ok (.invokevirtual 178, 3) := by decide +kernel
theorem dX5_mean_22 : decode cX5_mean 22 = .ok (.i2d, 1) := by decide +kernel
theorem dX5_mean_23 : decode cX5_mean 23 = .ok (.iload_n 1, 1) := by decide +kernel
theorem dX5_mean_24 : decode cX5_mean 24 = .ok (.i2d, 1) := by decide +kernel
theorem dX5_mean_25 : decode cX5_mean 25 = .ok (.ddiv, 1) := by decide +kernel
theorem dX5_mean_26 : decode cX5_mean 26 = .ok (.dreturn, 1) := by decide +kernel
theorem dX5_isPerson_0 : decode cX5_isPerson 0 = .ok (.iload_n 0, 1) := by decide +kernel
theorem dX5_isPerson_1 : decode cX5_isPerson 1 = .ok (.ifCond .lt 13, 3) := by decide +kernel
theorem dX5_isPerson_4 : decode cX5_isPerson 4 = .ok (.iload_n 0, 1) := by decide +kernel
theorem dX5_isPerson_5 : decode cX5_isPerson 5 = .ok (.bipush 8, 2) := by decide +kernel
theorem dX5_isPerson_7 : decode cX5_isPerson 7 = .ok (.if_icmp .ge 7, 3) := by decide +kernel
theorem dX5_isPerson_10 : decode cX5_isPerson 10 = .ok (.iconst 1, 1) := by decide +kernel
theorem dX5_isPerson_11 : decode cX5_isPerson 11 = .ok (.goto 4, 3) := by decide +kernel
theorem dX5_isPerson_14 : decode cX5_isPerson 14 = .ok (.iconst 0, 1) := by decide +kernel
theorem dX5_isPerson_15 : decode cX5_isPerson 15 = .ok (.ireturn, 1) := by decide +kernel
set_option maxRecDepth 20000 in
theorem ggX5_arePeople_X5_isPerson : GoodIn wsX5_arePeople wsX5_isPerson := goodIn_r _ [4] (by decide +kernel) (by decide +kernel)
set_option maxRecDepth 20000 in
theorem gX5_arePeople_X5_isPerson : GoodIn wsX5_arePeople (va_wsS RX5 99 yX5_isPerson wsX5_isPerson) := goodIn_app (goodIn_of _ (by decide +kernel)) ggX5_arePeople_X5_isPerson
theorem dX5_arePeople_0 : decode cX5_arePeople 0 = .ok (.iload_n 0, 1) := by decide +kernel
theorem dX5_arePeople_1 : decode cX5_arePeople 1 = .ok (.invokestatic 99, 3) := by decide +kernel
theorem dX5_arePeople_4 : decode cX5_arePeople 4 = .ok (.ifCond .eq 14, 3) := by decide +kernel
theorem dX5_arePeople_7 : decode cX5_arePeople 7 = .ok (.iload_n 1, 1) := by decide +kernel
theorem dX5_arePeople_8 : decode cX5_arePeople 8 = .ok (.invokestatic 99, 3) := by decide +kernel
theorem dX5_arePeople_11 : decode cX5_arePeople 11 = .ok (.ifCond .eq 7, 3) := by decide +kernel
theorem dX5_arePeople_14 : decode cX5_arePeople 14 = .ok (.iconst 1, 1) := by decide +kernel
theorem dX5_arePeople_15 : decode cX5_arePeople 15 = .ok (.goto 4, 3) := by decide +kernel
theorem dX5_arePeople_18 : decode cX5_arePeople 18 = .ok (.iconst 0, 1) := by decide +kernel
theorem dX5_arePeople_19 : decode cX5_arePeople 19 = .ok (.ireturn, 1) := by decide +kernel
theorem dX5_isGate_0 : decode cX5_isGate 0 = .ok (.iload_n 0, 1) := by decide +kernel
theorem dX5_isGate_1 : decode cX5_isGate 1 = .ok (.ifCond .lt 12, 3) := by decide +kernel
theorem dX5_isGate_4 : decode cX5_isGate 4 = .ok (.iload_n 0, 1) := by decide +kernel
theorem dX5_isGate_5 : decode cX5_isGate 5 = .ok (.iconst 4, 1) := by decide +kernel
theorem dX5_isGate_6 : decode cX5_isGate 6 = .ok (.if_icmp .ge 7, 3) := by decide +kernel
theorem dX5_isGate_9 : decode cX5_isGate 9 = .ok (.iconst 1, 1) := by decide +kernel
theorem dX5_isGate_10 : decode cX5_isGate 10 = .ok (.goto 4, 3) := by decide +kernel
theorem dX5_isGate_13 : decode cX5_isGate 13 = .ok (.iconst 0, 1) := by decide +kernel
theorem dX5_isGate_14 : decode cX5_isGate 14 = .ok (.ireturn, 1) := by decide +kernel
theorem dX5_asNumber_0 : decode cX5_asNumber 0 = .ok (.iload_n 0, 1) := by decide +kernel
theorem dX5_asNumber_1 : decode cX5_asNumber 1 = .ok (.ifCond .eq 7, 3) := by decide +kernel
theorem dX5_asNumber_4 : decode cX5_asNumber 4 = .ok (.iconst 1, 1) := by decide +kernel
theorem dX5_asNumber_5 : decode cX5_asNumber 5 = .ok (.goto 4, 3) := by decide +kernel
theorem dX5_asNumber_8 : decode cX5_asNumber 8 = .ok (.iconst 0, 1) := by decide +kernel
theorem dX5_asNumber_9 : decode cX5_asNumber 9 = .ok (.ireturn, 1) := by decide +kernel
theorem dX5_hasBit_0 : decode cX5_hasBit 0 = .ok (.iload_n 0, 1) := by decide +kernel
theorem dX5_hasBit_1 : decode cX5_hasBit 1 = .ok (.iload_n 1, 1) := by decide +kernel
theorem dX5_hasBit_2 : decode cX5_hasBit 2 = .ok (.ishr, 1) := by decide +kernel
theorem dX5_hasBit_3 : decode cX5_hasBit 3 = .ok (.iconst 1, 1) := by decide +kernel
theorem dX5_hasBit_4 : decode cX5_hasBit 4 = .ok (.iand, 1) := by decide +kernel
theorem dX5_hasBit_5 : decode cX5_hasBit 5 = .ok (.iconst 1, 1) := by decide +kernel
theorem dX5_hasBit_6 : decode cX5_hasBit 6 = .ok (.if_icmp .ne 7, 3) := by decide +kernel
theorem dX5_hasBit_9 : decode cX5_hasBit 9 = .ok (.iconst 1, 1) := by decide +kernel
theorem dX5_hasBit_10 : decode cX5_hasBit 10 = .ok (.goto 4, 3) := by decide +kernel
theorem dX5_hasBit_13 : decode cX5_hasBit 13 = .ok (.iconst 0, 1) := by decide +kernel
theorem dX5_hasBit_14 : decode cX5_hasBit 14 = .ok (.ireturn, 1) := by decide +kernel
set_option maxRecDepth 20000 in
theorem ggX5_makeRound_X2_takeFirst : GoodIn wsX5_makeRound wsX2_takeFirst := goodIn_r _ [6, 7, 8, 9, 10, 11, 5, 12, 13, 14, 15, 16, 17, 18, 19, 20, 21, 22, 23, 24, 25, 26, 27, 28, 29, 30, 31, 32, 33, 34, 35, 36, 37, 38, 39, 40, 41, 42, 43, 44, 45, 46, 47, 48, 49, 50, 51, 52, 53, 54, 55, 56, 57, 58, 59, 60, 61, 62, 63, 64, 65, 66, 98, 99, 100, 101, 102, 103] (by decide +kernel) (by decide +kernel)
set_option maxRecDepth 20000 in
theorem gX5_makeRound_X2_takeFirst : GoodIn wsX5_makeRound (wsV RX5 160 RX2 yX2_takeFirst wsX2_takeFirst) := goodIn_app (goodIn_of _ (by decide +kernel)) ggX5_makeRound_X2_takeFirst
set_option maxRecDepth 20000 in
theorem ggX5_makeRound_X2_partnerOf : GoodIn wsX5_makeRound wsX2_partnerOf := goodIn_r _ [70, 7, 13, 98, 99, 100, 101, 102] (by decide +kernel) (by decide +kernel)
set_option maxRecDepth 20000 in
theorem gX5_makeRound_X2_partnerOf : GoodIn wsX5_makeRound (wsV RX5 163 RX2 yX2_partnerOf wsX2_partnerOf) := goodIn_app (goodIn_of _ (by decide +kernel)) ggX5_makeRound_X2_partnerOf
set_option maxRecDepth 20000 in
theorem ggX5_makeRound_X5_isPerson : GoodIn wsX5_makeRound wsX5_isPerson := goodIn_r _ [58] (by decide +kernel) (by decide +kernel)
set_option maxRecDepth 20000 in
theorem gX5_makeRound_X5_isPerson : GoodIn wsX5_makeRound (va_wsS RX5 99 yX5_isPerson wsX5_isPerson) := goodIn_app (goodIn_of _ (by decide +kernel)) ggX5_makeRound_X5_isPerson
set_option maxRecDepth 20000 in
theorem ggX5_makeRound_X0_shakeHands : GoodIn wsX5_makeRound wsX0_shakeHands := goodIn_r _ [75, 27, 76, 77, 78, 21, 79, 103] (by decide +kernel) (by decide +kernel)
set_option maxRecDepth 20000 in
theorem gX5_makeRound_X0_shakeHands : GoodIn wsX5_makeRound (wsV RX5 196 RX0 yX0_shakeHands wsX0_shakeHands) := goodIn_app (goodIn_of _ (by decide +kernel)) ggX5_makeRound_X0_shakeHands
set_option maxRecDepth 20000 in
theorem ggX5_makeRound_X0_endRound : GoodIn wsX5_makeRound wsX0_endRound := goodIn_r _ [83, 27, 103] (by decide +kernel) (by decide +kernel)
set_option maxRecDepth 20000 in
theorem gX5_makeRound_X0_endRound : GoodIn wsX5_makeRound (wsV RX5 199 RX0 yX0_endRound wsX0_endRound) := goodIn_app (goodIn_of _ (by decide +kernel)) ggX5_makeRound_X0_endRound
set_option maxRecDepth 20000 in
theorem ggX5_makeRound_X2_size : GoodIn wsX5_makeRound wsX2_size := goodIn_r _ [87, 7, 88, 29, 89, 98, 99, 100, 101, 102] (by decide +kernel) (by decide +kernel)
set_option maxRecDepth 20000 in
theorem gX5_makeRound_X2_size : GoodIn wsX5_makeRound (wsV RX5 202 RX2 yX2_size wsX2_size) := goodIn_app (goodIn_of _ (by decide +kernel)) ggX5_makeRound_X2_size
theorem dX5_makeRound_0 : decode cX5_makeRound 0 = .ok (.aload_n 0, 1) := by decide +kernel
theorem dX5_makeRound_1 : decode cX5_makeRound 1 = .ok (.getfield 39, 3) := by decide +kernel
theorem dX5_makeRound_4 : decode cX5_makeRound 4 = .ok (.aload_n 1, 1) := by decide +kernel
theorem dX5_makeRound_5 : decode cX5_makeRound 5 = .ok (.invokevirtual 160, 3) := by decide +kernel
theorem dX5_makeRound_8 : decode cX5_makeRound 8 = .ok (.iconst 0, 1) := by decide +kernel
theorem dX5_makeRound_9 : decode cX5_makeRound 9 = .ok (.istore_n 2, 1) := by decide +kernel
theorem dX5_makeRound_10 : decode cX5_makeRound 10 = .ok (.iload_n 2, 1) := by decide +kernel
theorem dX5_makeRound_11 : decode cX5_makeRound 11 = .ok (.bipush 8, 2) := by decide +kernel
theorem dX5_makeRound_13 : decode cX5_makeRound 13 = .ok (.if_icmp .ge 32, 3) := by decide +kernel
theorem dX5_makeRound_16 : decode cX5_makeRound 16 = .ok (.aload_n 0, 1) := by decide +kernel
theorem dX5_makeRound_17 : decode cX5_makeRound 17 = .ok (.getfield 39, 3) := by decide +kernel
theorem dX5_makeRound_20 : decode cX5_makeRound 20 = .ok (.iconst 1, 1) := by decide +kernel
theorem dX5_makeRound_21 : decode cX5_makeRound 21 = .ok (.iload_n 2, 1) := by decide +kernel
theorem dX5_makeRound_22 : decode cX5_makeRound 22 = .ok (.invokevirtual 163, 3) := by decide +kernel
theorem dX5_makeRound_25 : decode cX5_makeRound 25 = .ok (.istore_n 3, 1) := by decide +kernel
theorem dX5_makeRound_26 : decode cX5_makeRound 26 = .ok (.iload_n 3, 1) := by decide +kernel
theorem dX5_makeRound_27 : decode cX5_makeRound 27 = .ok (.invokestatic 99, 3) := by decide +kernel
theorem dX5_makeRound_30 : decode cX5_makeRound 30 = .ok (.ifCond .eq 9, 3) := by decide +kernel
theorem dX5_makeRound_33 : decode cX5_makeRound 33 = .ok (.aload_n 1, 1) := by decide +kernel
theorem dX5_makeRound_34 : decode cX5_makeRound 34 = .ok (.iload_n 2, 1) := by decide +kernel
theorem dX5_makeRound_35 : decode cX5_makeRound 35 = .ok (.iload_n 3, 1) := by decide +kernel
theorem dX5_makeRound_36 : decode cX5_makeRound 36 = .ok (.invokevirtual 196, 3) := by decide +kernel
theorem dX5_makeRound_39 : decode cX5_makeRound 39 = .ok (.iinc 2 1, 3) := by decide +kernel
theorem dX5_makeRound_42 : decode cX5_makeRound 42 = .ok (.goto (-32), 3) := by decide +kernel
theorem dX5_makeRound_45 : decode cX5_makeRound 45 = .ok (.aload_n 1, 1) := by decide +kernel
theorem dX5_makeRound_46 : decode cX5_makeRound 46 = .ok (.invokevirtual 199, 3) := by decide +kernel
theorem dX5_makeRound_49 : decode cX5_makeRound 49 = .ok (.aload_n 0, 1) := by decide +kernel
theorem dX5_makeRound_50 : decode cX5_makeRound 50 = .ok (.getfield 39, 3) := by decide +kernel
theorem dX5_makeRound_53 : decode cX5_makeRound 53 = .ok (.invokevirtual 202, 3) := by decide +kernel
theorem dX5_makeRound_56 : decode cX5_makeRound 56 = .ok (.ireturn, 1) := by decide +kernel
set_option maxRecDepth 20000 in
theorem ggX5_reasonAgainst_X0_hasWish : GoodIn wsX5_reasonAgainst wsX0_hasWish := goodIn_r _ [7, 8, 9, 10, 11, 83] (by decide +kernel) (by decide +kernel)
set_option maxRecDepth 20000 in
theorem gX5_reasonAgainst_X0_hasWish : GoodIn wsX5_reasonAgainst (wsV RX5 58 RX0 yX0_hasWish wsX0_hasWish) := goodIn_app (goodIn_of _ (by decide +kernel)) ggX5_reasonAgainst_X0_hasWish
set_option maxRecDepth 20000 in
theorem ggX5_reasonAgainst_X0_areAtLinkedGates : GoodIn wsX5_reasonAgainst wsX0_areAtLinkedGates := goodIn_r _ [15, 8, 83] (by decide +kernel) (by decide +kernel)
set_option maxRecDepth 20000 in
theorem gX5_reasonAgainst_X0_areAtLinkedGates : GoodIn wsX5_reasonAgainst (wsV RX5 203 RX0 yX0_areAtLinkedGates wsX0_areAtLinkedGates) := goodIn_app (goodIn_of _ (by decide +kernel)) ggX5_reasonAgainst_X0_areAtLinkedGates
set_option maxRecDepth 20000 in
theorem ggX5_reasonAgainst_X0_feudOf : GoodIn wsX5_reasonAgainst wsX0_feudOf := goodIn_r _ [19, 8, 83] (by decide +kernel) (by decide +kernel)
set_option maxRecDepth 20000 in
theorem gX5_reasonAgainst_X0_feudOf : GoodIn wsX5_reasonAgainst (wsV RX5 76 RX0 yX0_feudOf wsX0_feudOf) := goodIn_app (goodIn_of _ (by decide +kernel)) ggX5_reasonAgainst_X0_feudOf
set_option maxRecDepth 20000 in
theorem ggX5_reasonAgainst_X2_takeFirst : GoodIn wsX5_reasonAgainst wsX2_takeFirst := goodIn_r _ [24, 25, 26, 27, 28, 29, 23, 30, 31, 32, 33, 34, 35, 36, 37, 38, 6, 39, 40, 4, 5, 7, 8, 9, 10, 11, 41, 42, 43, 44, 45, 17, 18, 19, 46, 13, 14, 15, 47, 48, 49, 50, 51, 52, 53, 54, 55, 56, 57, 58, 59, 60, 61, 62, 63, 64, 65, 66, 67, 68, 69, 70, 84, 85, 86, 87, 88, 83] (by decide +kernel) (by decide +kernel)
set_option maxRecDepth 20000 in
theorem gX5_reasonAgainst_X2_takeFirst : GoodIn wsX5_reasonAgainst (wsV RX5 160 RX2 yX2_takeFirst wsX2_takeFirst) := goodIn_app (goodIn_of _ (by decide +kernel)) ggX5_reasonAgainst_X2_takeFirst
set_option maxRecDepth 20000 in
theorem ggX5_reasonAgainst_X2_partnerOf : GoodIn wsX5_reasonAgainst wsX2_partnerOf := goodIn_r _ [74, 25, 31, 84, 85, 86, 87, 88] (by decide +kernel) (by decide +kernel)
set_option maxRecDepth 20000 in
theorem gX5_reasonAgainst_X2_partnerOf : GoodIn wsX5_reasonAgainst (wsV RX5 163 RX2 yX2_partnerOf wsX2_partnerOf) := goodIn_app (goodIn_of _ (by decide +kernel)) ggX5_reasonAgainst_X2_partnerOf
theorem dX5_reasonAgainst_0 : decode cX5_reasonAgainst 0 = .ok (.aload_n 0, 1) := by decide +kernel
theorem dX5_reasonAgainst_1 : decode cX5_reasonAgainst 1 = .ok (.getfield 12, 3) := by decide +kernel
theorem dX5_reasonAgainst_4 : decode cX5_reasonAgainst 4 = .ok (.iload_n 1, 1) := by decide +kernel
theorem dX5_reasonAgainst_5 : decode cX5_reasonAgainst 5 = .ok (.iload_n 2, 1) := by decide +kernel
theorem dX5_reasonAgainst_6 : decode cX5_reasonAgainst 6 = .ok (.invokevirtual 58, 3) := by decide +kernel
theorem dX5_reasonAgainst_9 : decode cX5_reasonAgainst 9 = .ok (.ifCond .ne 5, 3) := by decide +kernel
theorem dX5_reasonAgainst_12 : decode cX5_reasonAgainst 12 = .ok (.iconst 1, 1) := by decide +kernel
theorem dX5_reasonAgainst_13 : decode cX5_reasonAgainst 13 = .ok (.ireturn, 1) := by decide +kernel
theorem dX5_reasonAgainst_14 : decode cX5_reasonAgainst 14 = .ok (.aload_n 0, 1) := by decide +kernel
theorem dX5_reasonAgainst_15 : decode cX5_reasonAgainst 15 = .ok (.getfield 12, 3) := by decide +kernel
theorem dX5_reasonAgainst_18 : decode cX5_reasonAgainst 18 = .ok (.iload_n 1, 1) := by decide +kernel
theorem dX5_reasonAgainst_19 : decode cX5_reasonAgainst 19 = .ok (.iload_n 2, 1) := by decide +kernel
theorem dX5_reasonAgainst_20 : decode cX5_reasonAgainst 20 = .ok (.invokevirtual 203, 3) := by decide +kernel
theorem dX5_reasonAgainst_23 : decode cX5_reasonAgainst 23 = .ok (.ifCond .ne 5, 3) := by decide +kernel
theorem dX5_reasonAgainst_26 : decode cX5_reasonAgainst 26 = .ok (.iconst 2, 1) := by decide +kernel
theorem dX5_reasonAgainst_27 : decode cX5_reasonAgainst 27 = .ok (.ireturn, 1) := by decide +kernel
theorem dX5_reasonAgainst_28 : decode cX5_reasonAgainst 28 = .ok (.aload_n 0, 1) := by decide +kernel
theorem dX5_reasonAgainst_29 : decode cX5_reasonAgainst 29 = .ok (.getfield 12, 3) := by decide +kernel
theorem dX5_reasonAgainst_32 : decode cX5_reasonAgainst 32 = .ok (.iload_n 1, 1) := by decide +kernel
theorem dX5_reasonAgainst_33 : decode cX5_reasonAgainst 33 = .ok (.iload_n 2, 1) := by decide +kernel
theorem dX5_reasonAgainst_34 : decode cX5_reasonAgainst 34 = .ok (.invokevirtual 76, 3) := by decide +kernel
theorem dX5_reasonAgainst_37 : decode cX5_reasonAgainst 37 = .ok (.ifCond .le 5, 3) := by decide +kernel
theorem dX5_reasonAgainst_40 : decode cX5_reasonAgainst 40 = .ok (.iconst 3, 1) := by decide +kernel
theorem dX5_reasonAgainst_41 : decode cX5_reasonAgainst 41 = .ok (.ireturn, 1) := by decide +kernel
theorem dX5_reasonAgainst_42 : decode cX5_reasonAgainst 42 = .ok (.aload_n 0, 1) := by decide +kernel
theorem dX5_reasonAgainst_43 : decode cX5_reasonAgainst 43 = .ok (.getfield 39, 3) := by decide +kernel
theorem dX5_reasonAgainst_46 : decode cX5_reasonAgainst 46 = .ok (.aload_n 0, 1) := by decide +kernel
theorem dX5_reasonAgainst_47 : decode cX5_reasonAgainst 47 = .ok (.getfield 12, 3) := by decide +kernel
theorem dX5_reasonAgainst_50 : decode cX5_reasonAgainst 50 = .ok (.invokevirtual 160, 3) := by decide +kernel
theorem dX5_reasonAgainst_53 : decode cX5_reasonAgainst 53 = .ok (.aload_n 0, 1) := by decide +kernel
theorem dX5_reasonAgainst_54 : decode cX5_reasonAgainst 54 = .ok (.getfield 39, 3) := by decide +kernel
theorem dX5_reasonAgainst_57 : decode cX5_reasonAgainst 57 = .ok (.iconst 1, 1) := by decide +kernel
theorem dX5_reasonAgainst_58 : decode cX5_reasonAgainst 58 = .ok (.iload_n 1, 1) := by decide +kernel
theorem dX5_reasonAgainst_59 : decode cX5_reasonAgainst 59 = .ok (.invokevirtual 163, 3) := by decide +kernel
theorem dX5_reasonAgainst_62 : decode cX5_reasonAgainst 62 = .ok (.iload_n 2, 1) := by decide +kernel
theorem dX5_reasonAgainst_63 : decode cX5_reasonAgainst 63 = .ok (.if_icmp .ne 7, 3) := by decide +kernel
theorem dX5_reasonAgainst_66 : decode cX5_reasonAgainst 66 = .ok (.iconst 0, 1) := by decide +kernel
theorem dX5_reasonAgainst_67 : decode cX5_reasonAgainst 67 = .ok (.goto 4, 3) := by decide +kernel
theorem dX5_reasonAgainst_70 : decode cX5_reasonAgainst 70 = .ok (.iconst 4, 1) := by decide +kernel
theorem dX5_reasonAgainst_71 : decode cX5_reasonAgainst 71 = .ok (.ireturn, 1) := by decide +kernel
set_option maxRecDepth 20000 in
theorem ggX5_greatestSize_X2_takeGreatest : GoodIn wsX5_greatestSize wsX2_takeGreatest := goodIn_r _ [6, 7, 8, 9, 10, 11, 12, 13, 14, 15, 16, 17, 18, 19, 20, 21, 22, 23, 24, 25, 26, 27, 28, 29, 30, 31, 32, 33, 34, 35, 36, 37, 38, 39, 40, 41, 5, 42, 43, 44, 45, 46, 47, 48, 49, 50, 51, 52, 53, 54, 55, 56, 57, 58, 73, 74, 75, 76, 77, 78] (by decide +kernel) (by decide +kernel)
set_option maxRecDepth 20000 in
theorem gX5_greatestSize_X2_takeGreatest : GoodIn wsX5_greatestSize (wsV RX5 166 RX2 yX2_takeGreatest wsX2_takeGreatest) := goodIn_app (goodIn_of _ (by decide +kernel)) ggX5_greatestSize_X2_takeGreatest
set_option maxRecDepth 20000 in
theorem ggX5_greatestSize_X2_size : GoodIn wsX5_greatestSize wsX2_size := goodIn_r _ [62, 8, 63, 25, 64, 73, 74, 75, 76, 77] (by decide +kernel) (by decide +kernel)
set_option maxRecDepth 20000 in
theorem gX5_greatestSize_X2_size : GoodIn wsX5_greatestSize (wsV RX5 202 RX2 yX2_size wsX2_size) := goodIn_app (goodIn_of _ (by decide +kernel)) ggX5_greatestSize_X2_size
theorem dX5_greatestSize_0 : decode cX5_greatestSize 0 = .ok (.aload_n 0, 1) := by decide +kernel
theorem dX5_greatestSize_1 : decode cX5_greatestSize 1 = .ok (.getfield 39, 3) := by decide +kernel
theorem dX5_greatestSize_4 : decode cX5_greatestSize 4 = .ok (.aload_n 1, 1) := by decide +kernel
theorem dX5_greatestSize_5 : decode cX5_greatestSize 5 = .ok (.invokevirtual 166, 3) := by decide +kernel
theorem dX5_greatestSize_8 : decode cX5_greatestSize 8 = .ok (.aload_n 0, 1) := by decide +kernel
theorem dX5_greatestSize_9 : decode cX5_greatestSize 9 = .ok (.getfield 39, 3) := by decide +kernel
theorem dX5_greatestSize_12 : decode cX5_greatestSize 12 = .ok (.invokevirtual 202, 3) := by decide +kernel
theorem dX5_greatestSize_15 : decode cX5_greatestSize 15 = .ok (.ireturn, 1) := by decide +kernel
set_option maxRecDepth 20000 in
theorem ggX5_mostPossibleOfAPerson_X0_amountOfPerson : GoodIn wsX5_mostPossibleOfAPerson wsX0_amountOfPerson := goodIn_r _ [10, 11, 12, 13, 9, 14, 15, 16, 17, 18, 19, 20, 21, 22, 23, 24, 25, 26, 27, 28, 29, 30, 31, 32, 33, 34, 35, 36, 37, 38, 39, 40, 41, 42, 43, 44, 53] (by decide +kernel) (by decide +kernel)
set_option maxRecDepth 20000 in
theorem gX5_mostPossibleOfAPerson_X0_amountOfPerson : GoodIn wsX5_mostPossibleOfAPerson (wsV RX5 147 RX0 yX0_amountOfPerson wsX0_amountOfPerson) := goodIn_app (goodIn_of _ (by decide +kernel)) ggX5_mostPossibleOfAPerson_X0_amountOfPerson
theorem dX5_mostPossibleOfAPerson_0 : decode cX5_mostPossibleOfAPerson 0 = .ok (.iconst 0, 1) := by decide +kernel
theorem dX5_mostPossibleOfAPerson_1 : decode cX5_mostPossibleOfAPerson 1 = .ok (.istore_n 1, 1) := by decide +kernel
theorem dX5_mostPossibleOfAPerson_2 : decode cX5_mostPossibleOfAPerson 2 = .ok (.iconst 0, 1) := by decide +kernel
theorem dX5_mostPossibleOfAPerson_3 : decode cX5_mostPossibleOfAPerson 3 = .ok (.istore_n 2, 1) := by decide +kernel
theorem dX5_mostPossibleOfAPerson_4 : decode cX5_mostPossibleOfAPerson 4 = .ok (.iload_n 2, 1) := by decide +kernel
theorem dX5_mostPossibleOfAPerson_5 : decode cX5_mostPossibleOfAPerson 5 = .ok (.bipush 8, 2) := by decide +kernel
theorem dX5_mostPossibleOfAPerson_7 : decode cX5_mostPossibleOfAPerson 7 = .ok (.if_icmp .ge 39, 3) := by decide +kernel
theorem dX5_mostPossibleOfAPerson_10 : decode cX5_mostPossibleOfAPerson 10 = .ok (.iload_n 1, 1) := by decide +kernel
theorem dX5_mostPossibleOfAPerson_11 : decode cX5_mostPossibleOfAPerson 11 = .ok (.aload_n 0, 1) := by decide +kernel
theorem dX5_mostPossibleOfAPerson_12 : decode cX5_mostPossibleOfAPerson 12 = .ok (.getfield 12, 3) := by decide +kernel
theorem dX5_mostPossibleOfAPerson_15 : decode cX5_mostPossibleOfAPerson 15 = .ok (.iconst 1, 1) := by decide +kernel
theorem dX5_mostPossibleOfAPerson_16 : decode cX5_mostPossibleOfAPerson 16 = .ok (.iload_n 2, 1) := by decide +kernel
theorem dX5_mostPossibleOfAPerson_17 : decode cX5_mostPossibleOfAPerson 17 = .ok (.iconst 2, 1) := by decide +kernel
theorem dX5_mostPossibleOfAPerson_18 : decode cX5_mostPossibleOfAPerson 18 = .ok (.invokevirtual 147, 3) := by decide +kernel
theorem dX5_mostPossibleOfAPerson_21 : decode cX5_mostPossibleOfAPerson 21 = .ok (.invokestatic 206, 3) := by decide +kernel
theorem dX5_mostPossibleOfAPerson_24 : decode cX5_mostPossibleOfAPerson 24 = .ok (.istore_n 1, 1) := by decide +kernel
theorem dX5_mostPossibleOfAPerson_25 : decode cX5_mostPossibleOfAPerson 25 = .ok (.iload_n 1, 1) := by decide +kernel
theorem dX5_mostPossibleOfAPerson_26 : decode cX5_mostPossibleOfAPerson 26 = .ok (.aload_n 0, 1) := by decide +kernel
theorem dX5_mostPossibleOfAPerson_27 : decode cX5_mostPossibleOfAPerson 27 = .ok (.getfield 12, 3) := by decide +kernel
theorem dX5_mostPossibleOfAPerson_30 : decode cX5_mostPossibleOfAPerson 30 = .ok (.iconst 0, 1) := by decide +kernel
theorem dX5_mostPossibleOfAPerson_31 : decode cX5_mostPossibleOfAPerson 31 = .ok (.iload_n 2, 1) := by decide +kernel
theorem dX5_mostPossibleOfAPerson_32 : decode cX5_mostPossibleOfAPerson 32 = .ok (.iconst 2, 1) := by decide +kernel
theorem dX5_mostPossibleOfAPerson_33 : decode cX5_mostPossibleOfAPerson 33 = .ok (.invokevirtual 147, 3) := by decide +kernel
theorem dX5_mostPossibleOfAPerson_36 : decode cX5_mostPossibleOfAPerson 36 = .ok (.invokestatic 206, 3) := by decide +kernel
theorem dX5_mostPossibleOfAPerson_39 : decode cX5_mostPossibleOfAPerson 39 = .ok (.istore_n 1, 1) := by decide +kernel
theorem dX5_mostPossibleOfAPerson_40 : decode cX5_mostPossibleOfAPerson 40 = .ok (.iinc 2 1, 3) := by decide +kernel
theorem dX5_mostPossibleOfAPerson_43 : decode cX5_mostPossibleOfAPerson 43 = .ok (.goto (-39), 3) := by decide +kernel
theorem dX5_mostPossibleOfAPerson_46 : decode cX5_mostPossibleOfAPerson 46 = .ok (.iload_n 1, 1) := by decide +kernel
theorem dX5_mostPossibleOfAPerson_47 : decode cX5_mostPossibleOfAPerson 47 = .ok (.ireturn, 1) := by decide +kernel
theorem dX6_init_0 : decode cX6_init 0 = .ok (.aload_n 0, 1) := by decide +kernel
theorem dX6_init_1 : decode cX6_init 1 = .ok (.invokespecial 1, 3) := by decide +kernel
theorem dX6_init_4 : decode cX6_init 4 = .ok (.aload_n 0, 1) := by decide +kernel
theorem dX6_init_5 : decode cX6_init 5 = .ok (.sipush 225, 3) := by decide +kernel
theorem dX6_init_8 : decode cX6_init 8 = .ok (.newarray .int, 2) := by decide +kernel
theorem dX6_init_10 : decode cX6_init 10 = .ok (.putfield 7, 3) := by decide +kernel
theorem dX6_init_13 : decode cX6_init 13 = .ok (.aload_n 0, 1) := by decide +kernel
theorem dX6_init_14 : decode cX6_init 14 = .ok (.sipush 225, 3) := by decide +kernel
theorem dX6_init_17 : decode cX6_init 17 = .ok (.newarray .int, 2) := by decide +kernel
theorem dX6_init_19 : decode cX6_init 19 = .ok (.putfield 13, 3) := by decide +kernel
theorem dX6_init_22 : decode cX6_init 22 = .ok (.aload_n 0, 1) := by decide +kernel
theorem dX6_init_23 : decode cX6_init 23 = .ok (.sipush 1125, 3) := by decide +kernel
theorem dX6_init_26 : decode cX6_init 26 = .ok (.newarray .int, 2) := by decide +kernel
theorem dX6_init_28 : decode cX6_init 28 = .ok (.putfield 16, 3) := by decide +kernel
theorem dX6_init_31 : decode cX6_init 31 = .ok (.aload_n 0, 1) := by decide +kernel
theorem dX6_init_32 : decode cX6_init 32 = .ok (.sipush 225, 3) := by decide +kernel
theorem dX6_init_35 : decode cX6_init 35 = .ok (.newarray .int, 2) := by decide +kernel
theorem dX6_init_37 : decode cX6_init 37 = .ok (.putfield 19, 3) := by decide +kernel
theorem dX6_init_40 : decode cX6_init 40 = .ok (.aload_n 0, 1) := by decide +kernel
theorem dX6_init_41 : decode cX6_init 41 = .ok (.bipush 80, 2) := by decide +kernel
theorem dX6_init_43 : decode cX6_init 43 = .ok (.newarray .int, 2) := by decide +kernel
theorem dX6_init_45 : decode cX6_init 45 = .ok (.putfield 22, 3) := by decide +kernel
theorem dX6_init_48 : decode cX6_init 48 = .ok (.aload_n 0, 1) := by decide +kernel
theorem dX6_init_49 : decode cX6_init 49 = .ok (.bipush 8, 2) := by decide +kernel
theorem dX6_init_51 : decode cX6_init 51 = .ok (.newarray .int, 2) := by decide +kernel
theorem dX6_init_53 : decode cX6_init 53 = .ok (.putfield 25, 3) := by decide +kernel
theorem dX6_init_56 : decode cX6_init 56 = .ok (.aload_n 0, 1) := by decide +kernel
theorem dX6_init_57 : decode cX6_init 57 = .ok (.sipush 2304, 3) := by decide +kernel
theorem dX6_init_60 : decode cX6_init 60 = .ok (.newarray .int, 2) := by decide +kernel
theorem dX6_init_62 : decode cX6_init 62 = .ok (.putfield 28, 3) := by decide +kernel
theorem dX6_init_65 : decode cX6_init 65 = .ok (.aload_n 0, 1) := by decide +kernel
theorem dX6_init_66 : decode cX6_init 66 = .ok (.bipush 8, 2) := by decide +kernel
theorem dX6_init_68 : decode cX6_init 68 = .ok (.newarray .int, 2) := by decide +kernel
theorem dX6_init_70 : decode cX6_init 70 = .ok (.putfield 31, 3) := by decide +kernel
theorem dX6_init_73 : decode cX6_init 73 = .ok (.aload_n 0, 1) := by decide +kernel
theorem dX6_init_74 : decode cX6_init 74 = .ok (.bipush 64, 2) := by decide +kernel
theorem dX6_init_76 : decode cX6_init 76 = .ok (.newarray .int, 2) := by decide +kernel
theorem dX6_init_78 : decode cX6_init 78 = .ok (.putfield 34, 3) := by decide +kernel
theorem dX6_init_81 : decode cX6_init 81 = .ok (.aload_n 0, 1) := by decide +kernel
theorem dX6_init_82 : decode cX6_init 82 = .ok (.bipush 64, 2) := by decide +kernel
theorem dX6_init_84 : decode cX6_init 84 = .ok (.newarray .int, 2) := by decide +kernel
theorem dX6_init_86 : decode cX6_init 86 = .ok (.putfield 37, 3) := by decide +kernel
theorem dX6_init_89 : decode cX6_init 89 = .ok (.aload_n 0, 1) := by decide +kernel
theorem dX6_init_90 : decode cX6_init 90 = .ok (.bipush 64, 2) := by decide +kernel
theorem dX6_init_92 : decode cX6_init 92 = .ok (.newarray .int, 2) := by decide +kernel
theorem dX6_init_94 : decode cX6_init 94 = .ok (.putfield 40, 3) := by decide +kernel
theorem dX6_init_97 : decode cX6_init 97 = .ok (.aload_n 0, 1) := by decide +kernel
theorem dX6_init_98 : decode cX6_init 98 = .ok (.iconst 0, 1) := by decide +kernel
theorem dX6_init_99 : decode cX6_init 99 = .ok (.putfield 43, 3) := by decide +kernel
theorem dX6_init_102 : decode cX6_init 102 = .ok (.iconst 0, 1) := by decide +kernel
theorem dX6_init_103 : decode cX6_init 103 = .ok (.istore_n 1, 1) := by decide +kernel
theorem dX6_init_104 : decode cX6_init 104 = .ok (.iload_n 1, 1) := by decide +kernel
theorem dX6_init_105 : decode cX6_init 105 = .ok (.bipush 8, 2) := by decide +kernel
theorem dX6_init_107 : decode cX6_init 107 = .ok (.if_icmp .ge 32, 3) := by decide +kernel
theorem dX6_init_110 : decode cX6_init 110 = .ok (.aload_n 0, 1) := by decide +kernel
theorem dX6_init_111 : decode cX6_init 111 = .ok (.getfield 7, 3) := by decide +kernel
theorem dX6_init_114 : decode cX6_init 114 = .ok (.iconst 1, 1) := by decide +kernel
theorem dX6_init_115 : decode cX6_init 115 = .ok (.iload_n 1, 1) := by decide +kernel
theorem dX6_init_116 : decode cX6_init 116 = .ok (.iadd, 1) := by decide +kernel
theorem dX6_init_117 : decode cX6_init 117 = .ok (.iload_n 1, 1) := by decide +kernel
theorem dX6_init_118 : decode cX6_init 118 = .ok (.iconst 2, 1) := by decide +kernel
theorem dX6_init_119 : decode cX6_init 119 = .ok (.idiv, 1) := by decide +kernel
theorem dX6_init_120 : decode cX6_init 120 = .ok (.iastore, 1) := by decide +kernel
theorem dX6_init_121 : decode cX6_init 121 = .ok (.aload_n 0, 1) := by decide +kernel
theorem dX6_init_122 : decode cX6_init 122 = .ok (.getfield 7, 3) := by decide +kernel
theorem dX6_init_125 : decode cX6_init 125 = .ok (.bipush 9, 2) := by decide +kernel
theorem dX6_init_127 : decode cX6_init 127 = .ok (.iload_n 1, 1) := by decide +kernel
theorem dX6_init_128 : decode cX6_init 128 = .ok (.iadd, 1) := by decide +kernel
theorem dX6_init_129 : decode cX6_init 129 = .ok (.iload_n 1, 1) := by decide +kernel
theorem dX6_init_130 : decode cX6_init 130 = .ok (.iconst 2, 1) := by decide +kernel
theorem dX6_init_131 : decode cX6_init 131 = .ok (.idiv, 1) := by decide +kernel
theorem dX6_init_132 : decode cX6_init 132 = .ok (.iastore, 1) := by decide +kernel
theorem dX6_init_133 : decode cX6_init 133 = .ok (.iinc 1 1, 3) := by decide +kernel
theorem dX6_init_136 : decode cX6_init 136 = .ok (.goto (-32), 3) := by decide +kernel
theorem dX6_init_139 : decode cX6_init 139 = .ok (.iconst 0, 1) := by decide +kernel
theorem dX6_init_140 : decode cX6_init 140 = .ok (.istore_n 1, 1) := by decide +kernel
theorem dX6_init_141 : decode cX6_init 141 = .ok (.iload_n 1, 1) := by decide +kernel
theorem dX6_init_142 : decode cX6_init 142 = .ok (.iconst 4, 1) := by decide +kernel
theorem dX6_init_143 : decode cX6_init 143 = .ok (.if_icmp .ge 21, 3) := by decide +kernel
theorem dX6_init_146 : decode cX6_init 146 = .ok (.aload_n 0, 1) := by decide +kernel
theorem dX6_init_147 : decode cX6_init 147 = .ok (.getfield 7, 3) := by decide +kernel
theorem dX6_init_150 : decode cX6_init 150 = .ok (.bipush 17, 2) := by decide +kernel
theorem dX6_init_152 : decode cX6_init 152 = .ok (.iconst 5, 1) := by decide +kernel
theorem dX6_init_153 : decode cX6_init 153 = .ok (.iload_n 1, 1) := by decide +kernel
theorem dX6_init_154 : decode cX6_init 154 = .ok (.imul, 1) := by decide +kernel
theorem dX6_init_155 : decode cX6_init 155 = .ok (.iadd, 1) := by decide +kernel
theorem dX6_init_156 : decode cX6_init 156 = .ok (.iconst 1, 1) := by decide +kernel
theorem dX6_init_157 : decode cX6_init 157 = .ok (.iastore, 1) := by decide +kernel
theorem dX6_init_158 : decode cX6_init 158 = .ok (.iinc 1 1, 3) := by decide +kernel
theorem dX6_init_161 : decode cX6_init 161 = .ok (.goto (-20), 3) := by decide +kernel
theorem dX6_init_164 : decode cX6_init 164 = .ok (.return_, 1) := by decide +kernel
theorem dX6_in_0 : decode cX6_in 0 = .ok (.iload_n 0, 1) := by decide +kernel
theorem dX6_in_1 : decode cX6_in 1 = .ok (.iload_n 1, 1) := by decide +kernel
theorem dX6_in_2 : decode cX6_in 2 = .ok (.if_icmp .lt 12, 3) := by decide +kernel
theorem dX6_in_5 : decode cX6_in 5 = .ok (.iload_n 0, 1) := by decide +kernel
theorem dX6_in_6 : decode cX6_in 6 = .ok (.iload_n 2, 1) := by decide +kernel
theorem dX6_in_7 : decode cX6_in 7 = .ok (.if_icmp .gt 7, 3) := by decide +kernel
theorem dX6_in_10 : decode cX6_in 10 = .ok (.iconst 1, 1) := by decide +kernel
theorem dX6_in_11 : decode cX6_in 11 = .ok (.goto 4, 3) := by decide +kernel
theorem dX6_in_14 : decode cX6_in 14 = .ok (.iconst 0, 1) := by decide +kernel
theorem dX6_in_15 : decode cX6_in 15 = .ok (.ireturn, 1) := by decide +kernel
set_option maxRecDepth 20000 in
theorem ggX6_isPerson_X6_in : GoodIn wsX6_isPerson wsX6_in := goodIn_r _ [4] (by decide +kernel) (by decide +kernel)
set_option maxRecDepth 20000 in
theorem gX6_isPerson_X6_in : GoodIn wsX6_isPerson (va_wsS RX6 47 yX6_in wsX6_in) := goodIn_app (goodIn_of _ (by decide +kernel)) ggX6_isPerson_X6_in
theorem dX6_isPerson_0 : decode cX6_isPerson 0 = .ok (.iload_n 0, 1) := by decide +kernel
theorem dX6_isPerson_1 : decode cX6_isPerson 1 = .ok (.iconst 0, 1) := by decide +kernel
theorem dX6_isPerson_2 : decode cX6_isPerson 2 = .ok (.bipush 7, 2) := by decide +kernel
theorem dX6_isPerson_4 : decode cX6_isPerson 4 = .ok (.invokestatic 47, 3) := by decide +kernel
theorem dX6_isPerson_7 : decode cX6_isPerson 7 = .ok (.ireturn, 1) := by decide +kernel
set_option maxRecDepth 20000 in
theorem ggX6_isPair_X6_isPerson : GoodIn wsX6_isPair wsX6_isPerson := goodIn_r _ [4, 5, 6, 3, 7] (by decide +kernel) (by decide +kernel)
set_option maxRecDepth 20000 in
theorem gX6_isPair_X6_isPerson : GoodIn wsX6_isPair (va_wsS RX6 51 yX6_isPerson wsX6_isPerson) := goodIn_app (goodIn_of _ (by decide +kernel)) ggX6_isPair_X6_isPerson
theorem dX6_isPair_0 : decode cX6_isPair 0 = .ok (.iload_n 0, 1) := by decide +kernel
theorem dX6_isPair_1 : decode cX6_isPair 1 = .ok (.invokestatic 51, 3) := by decide +kernel
theorem dX6_isPair_4 : decode cX6_isPair 4 = .ok (.ifCond .eq 14, 3) := by decide +kernel
theorem dX6_isPair_7 : decode cX6_isPair 7 = .ok (.iload_n 1, 1) := by decide +kernel
theorem dX6_isPair_8 : decode cX6_isPair 8 = .ok (.invokestatic 51, 3) := by decide +kernel
theorem dX6_isPair_11 : decode cX6_isPair 11 = .ok (.ifCond .eq 7, 3) := by decide +kernel
theorem dX6_isPair_14 : decode cX6_isPair 14 = .ok (.iconst 1, 1) := by decide +kernel
theorem dX6_isPair_15 : decode cX6_isPair 15 = .ok (.goto 4, 3) := by decide +kernel
theorem dX6_isPair_18 : decode cX6_isPair 18 = .ok (.iconst 0, 1) := by decide +kernel
theorem dX6_isPair_19 : decode cX6_isPair 19 = .ok (.ireturn, 1) := by decide +kernel
set_option maxRecDepth 20000 in
theorem ggX6_isGate_X6_in : GoodIn wsX6_isGate wsX6_in := goodIn_r _ [4] (by decide +kernel) (by decide +kernel)
set_option maxRecDepth 20000 in
theorem gX6_isGate_X6_in : GoodIn wsX6_isGate (va_wsS RX6 47 yX6_in wsX6_in) := goodIn_app (goodIn_of _ (by decide +kernel)) ggX6_isGate_X6_in
theorem dX6_isGate_0 : decode cX6_isGate 0 = .ok (.iload_n 0, 1) := by decide +kernel
theorem dX6_isGate_1 : decode cX6_isGate 1 = .ok (.iconst 0, 1) := by decide +kernel
theorem dX6_isGate_2 : decode cX6_isGate 2 = .ok (.iconst 3, 1) := by decide +kernel
theorem dX6_isGate_3 : decode cX6_isGate 3 = .ok (.invokestatic 47, 3) := by decide +kernel
theorem dX6_isGate_6 : decode cX6_isGate 6 = .ok (.ireturn, 1) := by decide +kernel
theorem dX6_records_0 : decode cX6_records 0 = .ok (.aload_n 0, 1) := by decide +kernel
theorem dX6_records_1 : decode cX6_records 1 = .ok (.getfield 55, 3) := by decide +kernel
theorem dX6_records_4 : decode cX6_records 4 = .ok (.iconst 5, 1) := by decide +kernel
theorem dX6_records_5 : decode cX6_records 5 = .ok (.if_icmp .ne 44, 3) := by decide +kernel
theorem dX6_records_8 : decode cX6_records 8 = .ok (.iconst 0, 1) := by decide +kernel
theorem dX6_records_9 : decode cX6_records 9 = .ok (.istore_n 1, 1) := by decide +kernel
theorem dX6_records_10 : decode cX6_records 10 = .ok (.iload_n 1, 1) := by decide +kernel
theorem dX6_records_11 : decode cX6_records 11 = .ok (.sipush 900, 3) := by decide +kernel
theorem dX6_records_14 : decode cX6_records 14 = .ok (.if_icmp .ge 25, 3) := by decide +kernel
theorem dX6_records_17 : decode cX6_records 17 = .ok (.aload_n 0, 1) := by decide +kernel
theorem dX6_records_18 : decode cX6_records 18 = .ok (.getfield 16, 3) := by decide +kernel
theorem dX6_records_21 : decode cX6_records 21 = .ok (.iload_n 1, 1) := by decide +kernel
theorem dX6_records_22 : decode cX6_records 22 = .ok (.aload_n 0, 1) := by decide +kernel
theorem dX6_records_23 : decode cX6_records 23 = .ok (.getfield 16, 3) := by decide +kernel
theorem dX6_records_26 : decode cX6_records 26 = .ok (.iload_n 1, 1) := by decide +kernel
theorem dX6_records_27 : decode cX6_records 27 = .ok (.sipush 225, 3) := by decide +kernel
theorem dX6_records_30 : decode cX6_records 30 = .ok (.iadd, 1) := by decide +kernel
theorem dX6_records_31 : decode cX6_records 31 = .ok (.iaload, 1) := by decide +kernel
theorem dX6_records_32 : decode cX6_records 32 = .ok (.iastore, 1) := by decide +kernel
theorem dX6_records_33 : decode cX6_records 33 = .ok (.iinc 1 1, 3) := by decide +kernel
theorem dX6_records_36 : decode cX6_records 36 = .ok (.goto (-26), 3) := by decide +kernel
theorem dX6_records_39 : decode cX6_records 39 = .ok (.aload_n 0, 1) := by decide +kernel
theorem dX6_records_40 : decode cX6_records 40 = .ok (.dup, 1) := by decide +kernel
theorem dX6_records_41 : decode cX6_records 41 = .ok (.getfield 55, 3) := by decide +kernel
theorem dX6_records_44 : decode cX6_records 44 = .ok (.iconst 1, 1) := by decide +kernel
theorem dX6_records_45 : decode cX6_records 45 = .ok (.isub, 1) := by decide +kernel
theorem dX6_records_46 : decode cX6_records 46 = .ok (.putfield 55, 3) := by decide +kernel
theorem dX6_records_49 : decode cX6_records 49 = .ok (.iconst 0, 1) := by decide +kernel
theorem dX6_records_50 : decode cX6_records 50 = .ok (.istore_n 1, 1) := by decide +kernel
theorem dX6_records_51 : decode cX6_records 51 = .ok (.iload_n 1, 1) := by decide +kernel
theorem dX6_records_52 : decode cX6_records 52 = .ok (.sipush 225, 3) := by decide +kernel
theorem dX6_records_55 : decode cX6_records 55 = .ok (.if_icmp .ge 30, 3) := by decide +kernel
theorem dX6_records_58 : decode cX6_records 58 = .ok (.aload_n 0, 1) := by decide +kernel
theorem dX6_records_59 : decode cX6_records 59 = .ok (.getfield 16, 3) := by decide +kernel
theorem dX6_records_62 : decode cX6_records 62 = .ok (.sipush 225, 3) := by decide +kernel
theorem dX6_records_65 : decode cX6_records 65 = .ok (.aload_n 0, 1) := by decide +kernel
theorem dX6_records_66 : decode cX6_records 66 = .ok (.getfield 55, 3) := by decide +kernel
theorem dX6_records_69 : decode cX6_records 69 = .ok (.imul, 1) := by decide +kernel
theorem dX6_records_70 : decode cX6_records 70 = .ok (.iload_n 1, 1) := by decide +kernel
theorem dX6_records_71 : decode cX6_records 71 = .ok (.iadd, 1) := by decide +kernel
theorem dX6_records_72 : decode cX6_records 72 = .ok (.aload_n 0, 1) := by decide +kernel
theorem dX6_records_73 : decode cX6_records 73 = .ok (.getfield 7, 3) := by decide +kernel
theorem dX6_records_76 : decode cX6_records 76 = .ok (.iload_n 1, 1) := by decide +kernel
theorem dX6_records_77 : decode cX6_records 77 = .ok (.iaload, 1) := by decide +kernel
theorem dX6_records_78 : decode cX6_records 78 = .ok (.iastore, 1) := by decide +kernel
theorem dX6_records_79 : decode cX6_records 79 = .ok (.iinc 1 1, 3) := by decide +kernel
theorem dX6_records_82 : decode cX6_records 82 = .ok (.goto (-31), 3) := by decide +kernel
theorem dX6_records_85 : decode cX6_records 85 = .ok (.aload_n 0, 1) := by decide +kernel
theorem dX6_records_86 : decode cX6_records 86 = .ok (.dup, 1) := by decide +kernel
theorem dX6_records_87 : decode cX6_records 87 = .ok (.getfield 55, 3) := by decide +kernel
theorem dX6_records_90 : decode cX6_records 90 = .ok (.iconst 1, 1) := by decide +kernel
theorem dX6_records_91 : decode cX6_records 91 = .ok (.iadd, 1) := by decide +kernel
theorem dX6_records_92 : decode cX6_records 92 = .ok (.putfield 55, 3) := by decide +kernel
theorem dX6_records_95 : decode cX6_records 95 = .ok (.return_, 1) := by decide +kernel
theorem dX6_putAside_0 : decode cX6_putAside 0 = .ok (.iconst 0, 1) := by decide +kernel
theorem dX6_putAside_1 : decode cX6_putAside 1 = .ok (.istore_n 1, 1) := by decide +kernel
theorem dX6_putAside_2 : decode cX6_putAside 2 = .ok (.iload_n 1, 1) := by decide +kernel
theorem dX6_putAside_3 : decode cX6_putAside 3 = .ok (.sipush 225, 3) := by decide +kernel
theorem dX6_putAside_6 : decode cX6_putAside 6 = .ok (.if_icmp .ge 21, 3) := by decide +kernel
theorem dX6_putAside_9 : decode cX6_putAside 9 = .ok (.aload_n 0, 1) := by decide +kernel
theorem dX6_putAside_10 : decode cX6_putAside 10 = .ok (.getfield 13, 3) := by decide +kernel
theorem dX6_putAside_13 : decode cX6_putAside 13 = .ok (.iload_n 1, 1) := by decide +kernel
theorem dX6_putAside_14 : decode cX6_putAside 14 = .ok (.aload_n 0, 1) := by decide +kernel
theorem dX6_putAside_15 : decode cX6_putAside 15 = .ok (.getfield 7, 3) := by decide +kernel
theorem dX6_putAside_18 : decode cX6_putAside 18 = .ok (.iload_n 1, 1) := by decide +kernel
theorem dX6_putAside_19 : decode cX6_putAside 19 = .ok (.iaload, 1) := by decide +kernel
theorem dX6_putAside_20 : decode cX6_putAside 20 = .ok (.iastore, 1) := by decide +kernel
theorem dX6_putAside_21 : decode cX6_putAside 21 = .ok (.iinc 1 1, 3) := by decide +kernel
theorem dX6_putAside_24 : decode cX6_putAside 24 = .ok (.goto (-22), 3) := by decide +kernel
theorem dX6_putAside_27 : decode cX6_putAside 27 = .ok (.return_, 1) := by decide +kernel
theorem dX6_takeBack_0 : decode cX6_takeBack 0 = .ok (.iconst 0, 1) := by decide +kernel
theorem dX6_takeBack_1 : decode cX6_takeBack 1 = .ok (.istore_n 1, 1) := by decide +kernel
theorem dX6_takeBack_2 : decode cX6_takeBack 2 = .ok (.iload_n 1, 1) := by decide +kernel
theorem dX6_takeBack_3 : decode cX6_takeBack 3 = .ok (.sipush 225, 3) := by decide +kernel
theorem dX6_takeBack_6 : decode cX6_takeBack 6 = .ok (.if_icmp .ge 21, 3) := by decide +kernel
theorem dX6_takeBack_9 : decode cX6_takeBack 9 = .ok (.aload_n 0, 1) := by decide +kernel
theorem dX6_takeBack_10 : decode cX6_takeBack 10 = .ok (.getfield 7, 3) := by decide +kernel
theorem dX6_takeBack_13 : decode cX6_takeBack 13 = .ok (.iload_n 1, 1) := by decide +kernel
theorem dX6_takeBack_14 : decode cX6_takeBack 14 = .ok (.aload_n 0, 1) := by decide +kernel
theorem dX6_takeBack_15 : decode cX6_takeBack 15 = .ok (.getfield 13, 3) := by decide +kernel
theorem dX6_takeBack_18 : decode cX6_takeBack 18 = .ok (.iload_n 1, 1) := by decide +kernel
