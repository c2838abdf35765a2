theorem dX5_hasBit_4 : decode cX5_hasBit 4 = .ok (.iand, 1) := by decide +kernel
theorem dX5_hasBit_5 : decode cX5_hasBit 5 = .ok (.iconst 1, 1) := by decide +kernel
theorem dX5_hasBit_6 : decode cX5_hasBit 6 = .ok (.if_icmp .ne 7, 3) := by decide +kernel
theorem dX5_hasBit_9 : decode cX5_hasBit 9 = .ok (.iconst 1, 1) := by decide +kernel
theorem dX5_hasBit_10 : decode cX5_hasBit 10 = .ok (.goto 4, 3) := by decide +kernel
theorem dX5_hasBit_13 : decode cX5_hasBit 13 = .ok (.iconst 0, 1) := by decide +kernel
theorem dX5_hasBit_14 : decode cX5_hasBit 14 = .ok (.ireturn, 1) := by decide +kernel
set_option maxRecDepth 20000 in
theorem ggX5_makeRound_X2_takeFirst : GoodIn wsX5_makeRound wsX2_takeFirst := goodIn_r _ [6, 7, 8, 9, 10, 11, 5, 12, 13, 14, 15, 16, 17, 18, 19, 20, 21, 22, 23, 24, 25, 26, 27, 28, 29, 30, 31, 32, 33, 34, 35, 36, 37, 38, 39, 40, 41, 42, 43, 44, 45, 46, 47, 48, 49, 50, 51, 52, 53, 54, 55, 56, 57, 58, 59, 60, 61, 62, 63, 64, 65, 66, 98, 99, 100, 101, 102, 103] (by decide +kernel) (by decide +kernel)
set_option maxRecDepth 20000 in
theorem gX5_makeRound_X2_takeFirst : GoodIn wsX5_makeRound (wsV RX5 160 RX2 yX2_takeFirst wsX2_takeFirst) := goodIn_app (goodIn_of _ (by decide +kernel)) ggX5_makeRound_X2_takeFirst
set_option maxRecDepth 20000 in
theorem ggX5_makeRound_X2_partnerOf : GoodIn wsX5_makeRound wsX2_partnerOf := goodIn_r _ [70, 7, 13, 98, 99, 100, 101, 102] (by decide +kernel) (by decide +kernel)
set_option maxRecDepth 20000 in
theorem gX5_makeRound_X2_partnerOf : GoodIn wsX5_makeRound (wsV RX5 163 RX2 yX2_partnerOf wsX2_partnerOf) := goodIn_app (goodIn_of _ (by decide +kernel)) ggX5_makeRound_X2_partnerOf
set_option maxRecDepth 20000 in
theorem ggX5_makeRound_X5_isPerson : GoodIn wsX5_makeRound wsX5_isPerson := goodIn_r _ [58] (by decide +kernel) (by decide +kernel)
set_option maxRecDepth 20000 in
theorem gX5_makeRound_X5_isPerson : GoodIn wsX5_makeRound (va_wsS RX5 99 yX5_isPerson wsX5_isPerson) := goodIn_app (goodIn_of _ (by decide +kernel)) ggX5_makeRound_X5_isPerson
set_option maxRecDepth 20000 in
theorem ggX5_makeRound_X0_shakeHands : GoodIn wsX5_makeRound wsX0_shakeHands := goodIn_r _ [75, 27, 76, 77, 78, 21, 79, 103] (by decide +kernel) (by decide +kernel)
set_option maxRecDepth 20000 in
theorem gX5_makeRound_X0_shakeHands : GoodIn wsX5_makeRound (wsV RX5 196 RX0 yX0_shakeHands wsX0_shakeHands) := goodIn_app (goodIn_of _ (by decide +kernel)) ggX5_makeRound_X0_shakeHands
set_option maxRecDepth 20000 in
theorem ggX5_makeRound_X0_endRound : GoodIn wsX5_makeRound wsX0_endRound := goodIn_r _ [83, 27, 103] (by decide +kernel) (by decide +kernel)
set_option maxRecDepth 20000 in
theorem gX5_makeRound_X0_endRound : GoodIn wsX5_makeRound (wsV RX5 199 RX0 yX0_endRound wsX0_endRound) := goodIn_app (goodIn_of _ (by decide +kernel)) ggX5_makeRound_X0_endRound
set_option maxRecDepth 20000 in
theorem ggX5_makeRound_X2_size : GoodIn wsX5_makeRound wsX2_size := goodIn_r _ [87, 7, 88, 29, 89, 98, 99, 100, 101, 102] (by decide +kernel) (by decide +kernel)
set_option maxRecDepth 20000 in
theorem gX5_makeRound_X2_size : GoodIn wsX5_makeRound (wsV RX5 202 RX2 yX2_size wsX2_size) := goodIn_app (goodIn_of _ (by decide +kernel)) ggX5_makeRound_X2_size
theorem dX5_makeRound_0 : decode cX5_makeRound 0 = .ok (.aload_n 0, 1) := by decide +kernel
theorem dX5_makeRound_1 : decode cX5_makeRound 1 = .ok (.getfield 39, 3) := by decide +kernel
theorem dX5_makeRound_4 : decode cX5_makeRound 4 = .ok (.aload_n 1, 1) := by decide +kernel
theorem dX5_makeRound_5 : decode cX5_makeRound 5 = .ok (.invokevirtual 160, 3) := by decide +kernel
theorem dX5_makeRound_8 : decode cX5_makeRound 8 = .ok (.iconst 0, 1) := by decide +kernel
theorem dX5_makeRound_9 : decode cX5_makeRound 9 = .ok (.istore_n 2, 1) := by decide +kernel
theorem dX5_makeRound_10 : decode cX5_makeRound 10 = .ok (.iload_n 2, 1) := by decide +kernel
theorem dX5_makeRound_11 : decode cX5_makeRound 11 = .ok (.bipush 8, 2) := by decide +kernel
theorem dX5_makeRound_13 : decode cX5_makeRound 13 = .ok (.if_icmp .ge 32, 3) := by decide +kernel
theorem dX5_makeRound_16 : decode cX5_makeRound 16 = .ok (.aload_n 0, 1) := by decide +kernel
theorem dX5_makeRound_17 : decode cX5_makeRound 17 = .ok (.getfield 39, 3) := by decide +kernel
theorem dX5_makeRound_20 : decode cX5_makeRound 20 = .ok (.iconst 1, 1) := by decide +kernel
theorem dX5_makeRound_21 : decode cX5_makeRound 21 = .ok (.iload_n 2, 1) := by decide +kernel
theorem dX5_makeRound_22 : decode cX5_makeRound 22 = .ok (.invokevirtual 163, 3) := by decide +kernel
theorem dX5_makeRound_25 : decode cX5_makeRound 25 = .ok (.istore_n 3, 1) := by decide +kernel
theorem dX5_makeRound_26 : decode cX5_makeRound 26 = .ok (.iload_n 3, 1) := by decide +kernel
theorem dX5_makeRound_27 : decode cX5_makeRound 27 = .ok (.invokestatic 99, 3) := by decide +kernel
theorem dX5_makeRound_30 : decode cX5_makeRound 30 = .ok (.ifCond .eq 9, 3) := by decide +kernel
theorem dX5_makeRound_33 : decode cX5_makeRound 33 = .ok (.aload_n 1, 1) := by decide +kernel
theorem dX5_makeRound_34 : decode cX5_makeRound 34 = .ok (.iload_n 2, 1) := by decide +kernel
theorem dX5_makeRound_35 : decode cX5_makeRound 35 = .ok (.iload_n 3, 1) := by decide +kernel
theorem dX5_makeRound_36 : decode cX5_makeRound 36 = .ok (.invokevirtual 196, 3) := by decide +kernel
theorem dX5_makeRound_39 : decode cX5_makeRound 39 = .ok (.iinc 2 1, 3) := by decide +kernel
theorem dX5_makeRound_42 : decode cX5_makeRound 42 = .ok (.goto (-32), 3) := by decide +kernel
theorem dX5_makeRound_45 : decode cX5_makeRound 45 = .ok (.aload_n 1, 1) := by decide +kernel
theorem dX5_makeRound_46 : decode cX5_makeRound 46 = .ok (.invokevirtual 199, 3) := by decide +kernel
theorem dX5_makeRound_49 : decode cX5_makeRound 49 = .ok (.aload_n 0, 1) := by decide +kernel
theorem dX5_makeRound_50 : decode cX5_makeRound 50 = .ok (.getfield 39, 3) := by decide +kernel
theorem dX5_makeRound_53 : decode cX5_makeRound 53 = .ok (.invokevirtual 202, 3) := by decide +kernel
theorem dX5_makeRound_56 : decode cX5_makeRound 56 = .ok (.ireturn, 1) := by decide +kernel
set_option maxRecDepth 20000 in
theorem ggX5_reasonAgainst_X0_hasWish : GoodIn wsX5_reasonAgainst wsX0_hasWish := goodIn_r _ [7, 8, 9, 10, 11, 83] (by decide +kernel) (by decide +kernel)
set_option maxRecDepth 20000 in
theorem gX5_reasonAgainst_X0_hasWish : GoodIn wsX5_reasonAgainst (wsV RX5 58 RX0 yX0_hasWish wsX0_hasWish) := goodIn_app (goodIn_of _ (by decide +kernel)) ggX5_reasonAgainst_X0_hasWish
set_option maxRecDepth 20000 in
theorem ggX5_reasonAgainst_X0_areAtLinkedGates : GoodIn wsX5_reasonAgainst wsX0_areAtLinkedGates := goodIn_r _ [15, 8, 83] (by decide +kernel) (by decide +kernel)
set_option maxRecDepth 20000 in
theorem gX5_reasonAgainst_X0_areAtLinkedGates : GoodIn wsX5_reasonAgainst (wsV RX5 203 RX0 yX0_areAtLinkedGates wsX0_areAtLinkedGates) := goodIn_app (goodIn_of _ (by decide +kernel)) ggX5_reasonAgainst_X0_areAtLinkedGates
set_option maxRecDepth 20000 in
theorem ggX5_reasonAgainst_X0_feudOf : GoodIn wsX5_reasonAgainst wsX0_feudOf := goodIn_r _ [19, 8, 83] (by decide +kernel) (by decide +kernel)
set_option maxRecDepth 20000 in
theorem gX5_reasonAgainst_X0_feudOf : GoodIn wsX5_reasonAgainst (wsV RX5 76 RX0 yX0_feudOf wsX0_feudOf) := goodIn_app (goodIn_of _ (by decide +kernel)) ggX5_reasonAgainst_X0_feudOf
set_option maxRecDepth 20000 in
theorem ggX5_reasonAgainst_X2_takeFirst : GoodIn wsX5_reasonAgainst wsX2_takeFirst := goodIn_r _ [24, 25, 26, 27, 28, 29, 23, 30, 31, 32, 33, 34, 35, 36, 37, 38, 6, 39, 40, 4, 5, 7, 8, 9, 10, 11, 41, 42, 43, 44, 45, 17, 18, 19, 46, 13, 14, 15, 47, 48, 49, 50, 51, 52, 53, 54, 55, 56, 57, 58, 59, 60, 61, 62, 63, 64, 65, 66, 67, 68, 69, 70, 84, 85, 86, 87, 88, 83] (by decide +kernel) (by decide +kernel)
set_option maxRecDepth 20000 in
theorem gX5_reasonAgainst_X2_takeFirst : GoodIn wsX5_reasonAgainst (wsV RX5 160 RX2 yX2_takeFirst wsX2_takeFirst) := goodIn_app (goodIn_of _ (by decide +kernel)) ggX5_reasonAgainst_X2_takeFirst
set_option maxRecDepth 20000 in
theorem ggX5_reasonAgainst_X2_partnerOf : GoodIn wsX5_reasonAgainst wsX2_partnerOf := goodIn_r _ [74, 25, 31, 84, 85, 86, 87, 88] (by decide +kernel) (by decide +kernel)
set_option maxRecDepth 20000 in
theorem gX5_reasonAgainst_X2_partnerOf : GoodIn wsX5_reasonAgainst (wsV RX5 163 RX2 yX2_partnerOf wsX2_partnerOf) := goodIn_app (goodIn_of _ (by decide +kernel)) ggX5_reasonAgainst_X2_partnerOf
theorem dX5_reasonAgainst_0 : decode cX5_reasonAgainst 0 = .ok (.aload_n 0, 1) := by decide +kernel
theorem dX5_reasonAgainst_1 : decode cX5_reasonAgainst 1 = .ok (.getfield 12, 3) := by decide +kernel
theorem dX5_reasonAgainst_4 : decode cX5_reasonAgainst 4 = .ok (.iload_n 1, 1) := by decide +kernel
theorem dX5_reasonAgainst_5 : decode cX5_reasonAgainst 5 = .ok (.iload_n 2, 1) := by decide +kernel
theorem dX5_reasonAgainst_6 : decode cX5_reasonAgainst 6 = .ok (.invokevirtual 58, 3) := by decide +kernel
theorem dX5_reasonAgainst_9 : decode cX5_reasonAgainst 9 = .ok (.ifCond .ne 5, 3) := by decide +kernel
theorem dX5_reasonAgainst_12 : decode cX5_reasonAgainst 12 = .ok (.iconst 1, 1) := by decide +kernel
theorem dX5_reasonAgainst_13 : decode cX5_reasonAgainst 13 = .ok (.ireturn, 1) := by decide +kernel
theorem dX5_reasonAgainst_14 : decode cX5_reasonAgainst 14 = .ok (.aload_n 0, 1) := by decide +kernel
theorem dX5_reasonAgainst_15 : decode cX5_reasonAgainst 15 = .ok (.getfield 12, 3) := by decide +kernel
theorem dX5_reasonAgainst_18 : decode cX5_reasonAgainst 18 = .ok (.iload_n 1, 1) := by decide +kernel
theorem dX5_reasonAgainst_19 : decode cX5_reasonAgainst 19 = .ok (.iload_n 2, 1) := by decide +kernel
theorem dX5_reasonAgainst_20 : decode cX5_reasonAgainst 20 = .ok (.invokevirtual 203, 3) := by decide +kernel
theorem dX5_reasonAgainst_23 : decode cX5_reasonAgainst 23 = .ok (.ifCond .ne 5, 3) := by decide +kernel
theorem dX5_reasonAgainst_26 : decode cX5_reasonAgainst 26 = .ok (.iconst 2, 1) := by decide +kernel
theorem dX5_reasonAgainst_27 : decode cX5_reasonAgainst 27 = .ok (.ireturn, 1) := by decide +kernel
theorem dX5_reasonAgainst_28 : decode cX5_reasonAgainst 28 = .ok (.aload_n 0, 1) := by decide +kernel
theorem dX5_reasonAgainst_29 : decode cX5_reasonAgainst 29 = .ok (.getfield 12, 3) := by decide +kernel
theorem dX5_reasonAgainst_32 : decode cX5_reasonAgainst 32 = .ok (.iload_n 1, 1) := by decide +kernel
theorem dX5_reasonAgainst_33 : decode cX5_reasonAgainst 33 = .ok (.iload_n 2, 1) := by decide +kernel
theorem dX5_reasonAgainst_34 : decode cX5_reasonAgainst 34 = .ok (.invokevirtual 76, 3) := by decide +kernel
theorem dX5_reasonAgainst_37 : decode cX5_reasonAgainst 37 = .ok (.ifCond .le 5, 3) := by decide +kernel
theorem dX5_reasonAgainst_40 : decode cX5_reasonAgainst 40 = .ok (.iconst 3, 1) := by decide +kernel
theorem dX5_reasonAgainst_41 : decode cX5_reasonAgainst 41 = .ok (.ireturn, 1) := by decide +kernel
theorem dX5_reasonAgainst_42 : decode cX5_reasonAgainst 42 = .ok (.aload_n 0, 1) := by decide +kernel
theorem dX5_reasonAgainst_43 : decode cX5_reasonAgainst 43 = .ok (.getfield 39, 3) := by decide +kernel
theorem dX5_reasonAgainst_46 : decode cX5_reasonAgainst 46 = .ok (.aload_n 0, 1) := by decide +kernel
theorem dX5_reasonAgainst_47 : decode cX5_reasonAgainst 47 = .ok (.getfield 12, 3) := by decide +kernel
theorem dX5_reasonAgainst_50 : decode cX5_reasonAgainst 50 = .ok (.invokevirtual 160, 3) := by decide +kernel
theorem dX5_reasonAgainst_53 : decode cX5_reasonAgainst 53 = .ok (.aload_n 0, 1) := by decide +kernel
theorem dX5_reasonAgainst_54 : decode cX5_reasonAgainst 54 = .ok (.getfield 39, 3) := by decide +kernel
theorem dX5_reasonAgainst_57 : decode cX5_reasonAgainst 57 = .ok (.iconst 1, 1) := by decide +kernel
theorem dX5_reasonAgainst_58 : decode cX5_reasonAgainst 58 = .ok (.iload_n 1, 1) := by decide +kernel
theorem dX5_reasonAgainst_59 : decode cX5_reasonAgainst 59 = .ok (.invokevirtual 163, 3) := by decide +kernel
theorem dX5_reasonAgainst_62 : decode cX5_reasonAgainst 62 = .ok (.iload_n 2, 1) := by decide +kernel
theorem dX5_reasonAgainst_63 : decode cX5_reasonAgainst 63 = .ok (.if_icmp .ne 7, 3) := by decide +kernel
theorem dX5_reasonAgainst_66 : decode cX5_reasonAgainst 66 = .ok (.iconst 0, 1) := by decide +kernel
theorem dX5_reasonAgainst_67 : decode cX5_reasonAgainst 67 = .ok (.goto 4, 3) := by decide +kernel
theorem dX5_reasonAgainst_70 : decode cX5_reasonAgainst 70 = .ok (.iconst 4, 1) := by decide +kernel
theorem dX5_reasonAgainst_71 : decode cX5_reasonAgainst 71 = .ok (.ireturn, 1) := by decide +kernel
set_option maxRecDepth 20000 in
theorem ggX5_greatestSize_X2_takeGreatest : GoodIn wsX5_greatestSize wsX2_takeGreatest := goodIn_r _ [6, 7, 8, 9, 10, 11, 12, 13, 14, 15, 16, 17, 18, 19, 20, 21, 22, 23, 24, 25, 26, 27, 28, 29, 30, 31, 32, 33, 34, 35, 36, 37, 38, 39, 40, 41, 5, 42, 43, 44, 45, 46, 47, 48, 49, 50, 51, 52, 53, 54, 55, 56, 57, 58, 73, 74, 75, 76, 77, 78] (by decide +kernel) (by decide +kernel)
set_option maxRecDepth 20000 in
theorem gX5_greatestSize_X2_takeGreatest : GoodIn wsX5_greatestSize (wsV RX5 166 RX2 yX2_takeGreatest wsX2_takeGreatest) := goodIn_app (goodIn_of _ (by decide +kernel)) ggX5_greatestSize_X2_takeGreatest
set_option maxRecDepth 20000 in
theorem ggX5_greatestSize_X2_size : GoodIn wsX5_greatestSize wsX2_size := goodIn_r _ [62, 8, 63, 25, 64, 73, 74, 75, 76, 77] (by decide +kernel) (by decide +kernel)
set_option maxRecDepth 20000 in
theorem gX5_greatestSize_X2_size : GoodIn wsX5_greatestSize (wsV RX5 202 RX2 yX2_size wsX2_size) := goodIn_app (goodIn_of _ (by decide +kernel)) ggX5_greatestSize_X2_size
theorem dX5_greatestSize_0 : decode cX5_greatestSize 0 = .ok (.aload_n 0, 1) := by decide +kernel
theorem dX5_greatestSize_1 : decode cX5_greatestSize 1 = .ok (.getfield 39, 3) := by decide +kernel
theorem dX5_greatestSize_4 : decode cX5_greatestSize 4 = .ok (.aload_n 1, 1) := by decide +kernel
theorem dX5_greatestSize_5 : decode cX5_greatestSize 5 = .ok (.invokevirtual 166, 3) := by decide +kernel
theorem dX5_greatestSize_8 : decode cX5_greatestSize 8 = .ok (.aload_n 0, 1) := by decide +kernel
theorem dX5_greatestSize_9 : decode cX5_greatestSize 9 = .ok (.getfield 39, 3) := by decide +kernel
theorem dX5_greatestSize_12 : decode cX5_greatestSize 12 = .ok (.invokevirtual 202, 3) := by decide +kernel
theorem dX5_greatestSize_15 : decode cX5_greatestSize 15 = .ok (.ireturn, 1) := by decide +kernel
set_option maxRecDepth 20000 in
theorem ggX5_mostPossibleOfAPerson_X0_amountOfPerson : GoodIn wsX5_mostPossibleOfAPerson wsX0_amountOfPerson := goodIn_r _ [10, 11, 12, 13, 9, 14, 15, 16, 17, 18, 19, 20, 21, 22, 23, 24, 25, 26, 27, 28, 29, 30, 31, 32, 33, 34, 35, 36, 37, 38, 39, 40, 41, 42, 43, 44, 53] (by decide +kernel) (by decide +kernel)
set_option maxRecDepth 20000 in
theorem gX5_mostPossibleOfAPerson_X0_amountOfPerson : GoodIn wsX5_mostPossibleOfAPerson (wsV RX5 147 RX0 yX0_amountOfPerson wsX0_amountOfPerson) := goodIn_app (goodIn_of _ (by decide +kernel)) ggX5_mostPossibleOfAPerson_X0_amountOfPerson
theorem dX5_mostPossibleOfAPerson_0 : decode cX5_mostPossibleOfAPerson 0 = .ok (.iconst 0, 1) := by decide +kernel
theorem dX5_mostPossibleOfAPerson_1 : decode cX5_mostPossibleOfAPerson 1 = .ok (.istore_n 1, 1) := by decide +kernel
theorem dX5_mostPossibleOfAPerson_2 : decode cX5_mostPossibleOfAPerson 2 = .ok (.iconst 0, 1) := by decide +kernel
theorem dX5_mostPossibleOfAPerson_3 : decode cX5_mostPossibleOfAPerson 3 = .ok (.istore_n 2, 1) := by decide +kernel
theorem dX5_mostPossibleOfAPerson_4 : decode cX5_mostPossibleOfAPerson 4 = .ok (.iload_n 2, 1) := by decide +kernel
theorem dX5_mostPossibleOfAPerson_5 : decode cX5_mostPossibleOfAPerson 5 = .ok (.bipush 8, 2) := by decide +kernel
theorem dX5_mostPossibleOfAPerson_7 : decode cX5_mostPossibleOfAPerson 7 = .ok (.if_icmp .ge 39, 3) := by decide +kernel
theorem dX5_mostPossibleOfAPerson_10 : decode cX5_mostPossibleOfAPerson 10 = .ok (.iload_n 1, 1) := by decide +kernel
theorem dX5_mostPossibleOfAPerson_11 : decode cX5_mostPossibleOfAPerson 11 = .ok (.aload_n 0, 1) := by decide +kernel
theorem dX5_mostPossibleOfAPerson_12 : decode cX5_mostPossibleOfAPerson 12 = .ok (.getfield 12, 3) := by decide +kernel
theorem dX5_mostPossibleOfAPerson_15 : decode cX5_mostPossibleOfAPerson 15 = .ok (.iconst 1, 1) := by decide +kernel
theorem dX5_mostPossibleOfAPerson_16 : decode cX5_mostPossibleOfAPerson 16 = .ok (.iload_n 2, 1) := by decide +kernel
theorem dX5_mostPossibleOfAPerson_17 : decode cX5_mostPossibleOfAPerson 17 = .ok (.iconst 2, 1) := by decide +kernel
theorem dX5_mostPossibleOfAPerson_18 : decode cX5_mostPossibleOfAPerson 18 = .ok (.invokevirtual 147, 3) := by decide +kernel
theorem dX5_mostPossibleOfAPerson_21 : decode cX5_mostPossibleOfAPerson 21 = .ok (.invokestatic 206, 3) := by decide +kernel
theorem dX5_mostPossibleOfAPerson_24 : decode cX5_mostPossibleOfAPerson 24 = .ok (.istore_n 1, 1) := by decide +kernel
theorem dX5_mostPossibleOfAPerson_25 : decode cX5_mostPossibleOfAPerson 25 = .ok (.iload_n 1, 1) := by decide +kernel
theorem dX5_mostPossibleOfAPerson_26 : decode cX5_mostPossibleOfAPerson 26 = .ok (.aload_n 0, 1) := by decide +kernel
theorem dX5_mostPossibleOfAPerson_27 : decode cX5_mostPossibleOfAPerson 27 = .ok (.getfield 12, 3) := by decide +kernel
theorem dX5_mostPossibleOfAPerson_30 : decode cX5_mostPossibleOfAPerson 30 = .ok (.iconst 0, 1) := by decide +kernel
theorem dX5_mostPossibleOfAPerson_31 : decode cX5_mostPossibleOfAPerson 31 = .ok (.iload_n 2, 1) := by decide +kernel
theorem dX5_mostPossibleOfAPerson_32 : decode cX5_mostPossibleOfAPerson 32 = .ok (.iconst 2, 1) := by decide +kernel
theorem dX5_mostPossibleOfAPerson_33 : decode cX5_mostPossibleOfAPerson 33 = .ok (.invokevirtual 147, 3) := by decide +kernel
theorem dX5_mostPossibleOfAPerson_36 : decode cX5_mostPossibleOfAPerson 36 = .ok (.invokestatic 206, 3) := by decide +kernel
theorem dX5_mostPossibleOfAPerson_39 : decode cX5_mostPossibleOfAPerson 39 = .ok (.istore_n 1, 1) := by decide +kernel
theorem dX5_mostPossibleOfAPerson_40 : decode cX5_mostPossibleOfAPerson 40 = .ok (.iinc 2 1, 3) := by decide +kernel
theorem dX5_mostPossibleOfAPerson_43 : decode cX5_mostPossibleOfAPerson 43 = .ok (.goto (-39), 3) := by decide +kernel
theorem dX5_mostPossibleOfAPerson_46 : decode cX5_mostPossibleOfAPerson 46 = .ok (.iload_n 1, 1) := by decide +kernel
theorem dX5_mostPossibleOfAPerson_47 : decode cX5_mostPossibleOfAPerson 47 = .ok (.ireturn, 1) := by decide +kernel
theorem dJ6_bitCount_0f7a4_0 : decode cJ6_bitCount_0f7a4 0 = .ok (.iload_n 0, 1) := by decide +kernel
theorem dJ6_bitCount_0f7a4_1 : decode cJ6_bitCount_0f7a4 1 = .ok (.iload_n 0, 1) := by decide +kernel
theorem dJ6_bitCount_0f7a4_2 : decode cJ6_bitCount_0f7a4 2 = .ok (.iconst 1, 1) := by decide +kernel
theorem dJ6_bitCount_0f7a4_3 : decode cJ6_bitCount_0f7a4 3 = .ok (.iushr, 1) := by decide +kernel
theorem dJ6_bitCount_0f7a4_4 : decode cJ6_bitCount_0f7a4 4 = .ok (.ldc_w 265, 3) := by decide +kernel
theorem dJ6_bitCount_0f7a4_7 : decode cJ6_bitCount_0f7a4 7 = .ok (.iand, 1) := by decide +kernel
theorem dJ6_bitCount_0f7a4_8 : decode cJ6_bitCount_0f7a4 8 = .ok (.isub, 1) := by decide +kernel
theorem dJ6_bitCount_0f7a4_9 : decode cJ6_bitCount_0f7a4 9 = .ok (.istore_n 0, 1) := by decide +kernel
theorem dJ6_bitCount_0f7a4_10 : decode cJ6_bitCount_0f7a4 10 = .ok (.iload_n 0, 1) := by decide +kernel
theorem dJ6_bitCount_0f7a4_11 : decode cJ6_bitCount_0f7a4 11 = .ok (.ldc_w 266, 3) := by decide +kernel
theorem dJ6_bitCount_0f7a4_14 : decode cJ6_bitCount_0f7a4 14 = .ok (.iand, 1) := by decide +kernel
theorem dJ6_bitCount_0f7a4_15 : decode cJ6_bitCount_0f7a4 15 = .ok (.iload_n 0, 1) := by decide +kernel
theorem dJ6_bitCount_0f7a4_16 : decode cJ6_bitCount_0f7a4 16 = .ok (.iconst 2, 1) := by decide +kernel
theorem dJ6_bitCount_0f7a4_17 : decode cJ6_bitCount_0f7a4 17 = .ok (.iushr, 1) := by decide +kernel
theorem dJ6_bitCount_0f7a4_18 : decode cJ6_bitCount_0f7a4 18 = .ok (.ldc_w 266, 3) := by decide +kernel
theorem dJ6_bitCount_0f7a4_21 : decode cJ6_bitCount_0f7a4 21 = .ok (.iand, 1) := by decide +kernel
theorem dJ6_bitCount_0f7a4_22 : decode cJ6_bitCount_0f7a4 22 = .ok (.iadd, 1) := by decide +kernel
theorem dJ6_bitCount_0f7a4_23 : decode cJ6_bitCount_0f7a4 23 = .ok (.istore_n 0, 1) := by decide +kernel
theorem dJ6_bitCount_0f7a4_24 : decode cJ6_bitCount_0f7a4 24 = .ok (.iload_n 0, 1) := by decide +kernel
theorem dJ6_bitCount_0f7a4_25 : decode cJ6_bitCount_0f7a4 25 = .ok (.iload_n 0, 1) := by decide +kernel
theorem dJ6_bitCount_0f7a4_26 : decode cJ6_bitCount_0f7a4 26 = .ok (.iconst 4, 1) := by decide +kernel
theorem dJ6_bitCount_0f7a4_27 : decode cJ6_bitCount_0f7a4 27 = .ok (.iushr, 1) := by decide +kernel
theorem dJ6_bitCount_0f7a4_28 : decode cJ6_bitCount_0f7a4 28 = .ok (.iadd, 1) := by decide +kernel
theorem dJ6_bitCount_0f7a4_29 : decode cJ6_bitCount_0f7a4 29 = .ok (.ldc_w 267, 3) := by decide +kernel
theorem dJ6_bitCount_0f7a4_32 : decode cJ6_bitCount_0f7a4 32 = .ok (.iand, 1) := by decide +kernel
theorem dJ6_bitCount_0f7a4_33 : decode cJ6_bitCount_0f7a4 33 = .ok (.istore_n 0, 1) := by decide +kernel
theorem dJ6_bitCount_0f7a4_34 : decode cJ6_bitCount_0f7a4 34 = .ok (.iload_n 0, 1) := by decide +kernel
theorem dJ6_bitCount_0f7a4_35 : decode cJ6_bitCount_0f7a4 35 = .ok (.iload_n 0, 1) := by decide +kernel
theorem dJ6_bitCount_0f7a4_36 : decode cJ6_bitCount_0f7a4 36 = .ok (.bipush 8, 2) := by decide +kernel
theorem dJ6_bitCount_0f7a4_38 : decode cJ6_bitCount_0f7a4 38 = .ok (.iushr, 1) := by decide +kernel
theorem dJ6_bitCount_0f7a4_39 : decode cJ6_bitCount_0f7a4 39 = .ok (.iadd, 1) := by decide +kernel
theorem dJ6_bitCount_0f7a4_40 : decode cJ6_bitCount_0f7a4 40 = .ok (.istore_n 0, 1) := by decide +kernel
theorem dJ6_bitCount_0f7a4_41 : decode cJ6_bitCount_0f7a4 41 = .ok (.iload_n 0, 1) := by decide +kernel
theorem dJ6_bitCount_0f7a4_42 : decode cJ6_bitCount_0f7a4 42 = .ok (.iload_n 0, 1) := by decide +kernel
theorem dJ6_bitCount_0f7a4_43 : decode cJ6_bitCount_0f7a4 43 = .ok (.bipush 16, 2) := by decide +kernel
theorem dJ6_bitCount_0f7a4_45 : decode cJ6_bitCount_0f7a4 45 = .ok (.iushr, 1) := by decide +kernel
theorem dJ6_bitCount_0f7a4_46 : decode cJ6_bitCount_0f7a4 46 = .ok (.iadd, 1) := by decide +kernel
theorem dJ6_bitCount_0f7a4_47 : decode cJ6_bitCount_0f7a4 47 = .ok (.istore_n 0, 1) := by decide +kernel
theorem dJ6_bitCount_0f7a4_48 : decode cJ6_bitCount_0f7a4 48 = .ok (.iload_n 0, 1) := by decide +kernel
theorem dJ6_bitCount_0f7a4_49 : decode cJ6_bitCount_0f7a4 49 = .ok (.bipush 63, 2) := by decide +kernel
theorem dJ6_bitCount_0f7a4_51 : decode cJ6_bitCount_0f7a4 51 = .ok (.iand, 1) := by decide +kernel
theorem dJ6_bitCount_0f7a4_52 : decode cJ6_bitCount_0f7a4 52 = .ok (.ireturn, 1) := by decide +kernel
theorem dJ9_max_7cf53_0 : decode cJ9_max_7cf53 0 = .ok (.iload_n 0, 1) := by decide +kernel
theorem dJ9_max_7cf53_1 : decode cJ9_max_7cf53 1 = .ok (.iload_n 1, 1) := by decide +kernel
theorem dJ9_max_7cf53_2 : decode cJ9_max_7cf53 2 = .ok (.if_icmp .lt 7, 3) := by decide +kernel
theorem dJ9_max_7cf53_5 : decode cJ9_max_7cf53 5 = .ok (.iload_n 0, 1) := by decide +kernel
theorem dJ9_max_7cf53_6 : decode cJ9_max_7cf53 6 = .ok (.goto 4, 3) := by decide +kernel
theorem dJ9_max_7cf53_9 : decode cJ9_max_7cf53 9 = .ok (.iload_n 1, 1) := by decide +kernel
theorem dJ9_max_7cf53_10 : decode cJ9_max_7cf53 10 = .ok (.ireturn, 1) := by decide +kernel
theorem dJ7_fill_53178_0 : decode cJ7_fill_53178 0 = .ok (.iconst 0, 1) := by decide +kernel
theorem dJ7_fill_53178_1 : decode cJ7_fill_53178 1 = .ok (.istore_n 2, 1) := by decide +kernel
theorem dJ7_fill_53178_2 : decode cJ7_fill_53178 2 = .ok (.aload_n 0, 1) := by decide +kernel
theorem dJ7_fill_53178_3 : decode cJ7_fill_53178 3 = .ok (.arraylength, 1) := by decide +kernel
theorem dJ7_fill_53178_4 : decode cJ7_fill_53178 4 = .ok (.istore_n 3, 1) := by decide +kernel
theorem dJ7_fill_53178_5 : decode cJ7_fill_53178 5 = .ok (.iload_n 2, 1) := by decide +kernel
theorem dJ7_fill_53178_6 : decode cJ7_fill_53178 6 = .ok (.iload_n 3, 1) := by decide +kernel
theorem dJ7_fill_53178_7 : decode cJ7_fill_53178 7 = .ok (.if_icmp .ge 13, 3) := by decide +kernel
theorem dJ7_fill_53178_10 : decode cJ7_fill_53178 10 = .ok (.aload_n 0, 1) := by decide +kernel
theorem dJ7_fill_53178_11 : decode cJ7_fill_53178 11 = .ok (.iload_n 2, 1) := by decide +kernel
theorem dJ7_fill_53178_12 : decode cJ7_fill_53178 12 = .ok (.iload_n 1, 1) := by decide +kernel
theorem dJ7_fill_53178_13 : decode cJ7_fill_53178 13 = .ok (.iastore, 1) := by decide +kernel
theorem dJ7_fill_53178_14 : decode cJ7_fill_53178 14 = .ok (.iinc 2 1, 3) := by decide +kernel
theorem dJ7_fill_53178_17 : decode cJ7_fill_53178 17 = .ok (.goto (-12), 3) := by decide +kernel
theorem dJ7_fill_53178_20 : decode cJ7_fill_53178 20 = .ok (.return_, 1) := by decide +kernel
theorem dL_cell_0 : decode cL_cell 0 = .ok (.iload_n 1, 1) := by decide +kernel
theorem dL_cell_1 : decode cL_cell 1 = .ok (.aload_n 0, 1) := by decide +kernel
theorem dL_cell_2 : decode cL_cell 2 = .ok (.arraylength, 1) := by decide +kernel
theorem dL_cell_3 : decode cL_cell 3 = .ok (.if_icmp .ge 9, 3) := by decide +kernel
theorem dL_cell_6 : decode cL_cell 6 = .ok (.aload_n 0, 1) := by decide +kernel
theorem dL_cell_7 : decode cL_cell 7 = .ok (.iload_n 1, 1) := by decide +kernel
theorem dL_cell_8 : decode cL_cell 8 = .ok (.iaload, 1) := by decide +kernel
theorem dL_cell_9 : decode cL_cell 9 = .ok (.goto 15, 3) := by decide +kernel
theorem dL_cell_12 : decode cL_cell 12 = .ok (.sipush 7919, 3) := by decide +kernel
theorem dL_cell_15 : decode cL_cell 15 = .ok (.iload_n 1, 1) := by decide +kernel
theorem dL_cell_16 : decode cL_cell 16 = .ok (.iconst 3, 1) := by decide +kernel
theorem dL_cell_17 : decode cL_cell 17 = .ok (.iadd, 1) := by decide +kernel
theorem dL_cell_18 : decode cL_cell 18 = .ok (.imul, 1) := by decide +kernel
theorem dL_cell_19 : decode cL_cell 19 = .ok (.iload_n 1, 1) := by decide +kernel
theorem dL_cell_20 : decode cL_cell 20 = .ok (.bipush 11, 2) := by decide +kernel
theorem dL_cell_22 : decode cL_cell 22 = .ok (.iadd, 1) := by decide +kernel
theorem dL_cell_23 : decode cL_cell 23 = .ok (.imul, 1) := by decide +kernel
theorem dL_cell_24 : decode cL_cell 24 = .ok (.ireturn, 1) := by decide +kernel
theorem dL_low_0 : decode cL_low 0 = .ok (.iload_n 0, 1) := by decide +kernel
theorem dL_low_1 : decode cL_low 1 = .ok (.ldc 7, 2) := by decide +kernel
theorem dL_low_3 : decode cL_low 3 = .ok (.iand, 1) := by decide +kernel
theorem dL_low_4 : decode cL_low 4 = .ok (.iload_n 1, 1) := by decide +kernel
theorem dL_low_5 : decode cL_low 5 = .ok (.irem, 1) := by decide +kernel
theorem dL_low_6 : decode cL_low 6 = .ok (.ireturn, 1) := by decide +kernel
set_option maxRecDepth 20000 in
theorem ggL_told_X5_count : GoodIn wsL_told wsX5_count := goodIn_r _ [7, 8, 9, 10, 11, 12, 13, 14, 15, 16, 17, 18, 19, 20, 21, 22, 23, 24, 25, 26, 27, 28, 29, 30, 31, 32, 33, 34, 35, 36, 37, 38, 39, 40, 6, 41, 42, 43, 44, 45, 46, 47, 48, 49, 50, 51, 52, 53, 54, 55, 56, 57, 58, 59, 60, 61, 62, 63, 64, 65, 66, 67, 68, 69, 70, 71, 72, 73, 74, 75, 76, 77, 78, 79, 80, 81, 82, 83, 84, 85, 86, 87, 88, 89, 90, 91, 92, 93, 94, 95, 96, 97, 98, 99, 100, 101, 102, 103, 104, 105, 106, 107, 108, 109, 110, 111, 112, 113, 114, 115, 116, 117, 118, 119, 120, 121, 122, 123, 124, 125, 126, 127, 128, 129, 130, 131, 132, 133, 134, 188, 189, 190, 191, 192, 193, 194, 195, 196, 197, 198, 199, 200, 201, 202, 203, 204, 205, 206, 207, 208, 209, 210] (by decide +kernel) (by decide +kernel)
set_option maxRecDepth 20000 in
theorem gL_told_X5_count : GoodIn wsL_told (wsV RL 12 RX5 yX5_count wsX5_count) := goodIn_app (goodIn_of _ (by decide +kernel)) ggL_told_X5_count
set_option maxRecDepth 20000 in
theorem ggL_told_X5_pair : GoodIn wsL_told wsX5_pair := goodIn_r _ [138, 8, 139, 140, 6, 141, 142, 104, 105, 143, 37, 38, 14, 39, 16, 40, 41, 144, 42, 43, 145, 53, 54, 55, 146, 61, 62, 63, 147, 148, 149, 150, 76, 151, 57, 58, 59, 152, 153, 154, 80, 155, 83, 82, 156, 78, 79, 81, 84, 85, 86, 87, 88, 89, 45, 46, 47, 36, 48, 49, 50, 51, 52, 56, 90, 91, 92, 93, 94, 95, 96, 97, 98, 99, 100, 101, 102, 103, 106, 107, 108, 109, 157, 158, 159, 160, 161, 162, 163, 164, 188, 189, 190, 191, 192, 193, 194, 195, 196, 197, 198, 199, 200, 201] (by decide +kernel) (by decide +kernel)
set_option maxRecDepth 20000 in
theorem gL_told_X5_pair : GoodIn wsL_told (wsV RL 18 RX5 yX5_pair wsX5_pair) := goodIn_app (goodIn_of _ (by decide +kernel)) ggL_told_X5_pair
set_option maxRecDepth 20000 in
theorem ggL_told_X5_isLinked : GoodIn wsL_told wsX5_isLinked := goodIn_r _ [168, 8, 169, 170, 6, 171, 172, 173, 174, 14, 175, 16, 40, 41, 144, 42, 43, 188, 189, 190, 191, 192, 193, 194, 195, 196] (by decide +kernel) (by decide +kernel)
set_option maxRecDepth 20000 in
theorem gL_told_X5_isLinked : GoodIn wsL_told (wsV RL 22 RX5 yX5_isLinked wsX5_isLinked) := goodIn_app (goodIn_of _ (by decide +kernel)) ggL_told_X5_isLinked
set_option maxRecDepth 20000 in
theorem ggL_told_X5_person : GoodIn wsL_told wsX5_person := goodIn_r _ [179, 8, 142, 104, 6, 105, 180, 181, 182, 14, 183, 16, 122, 29, 30, 31, 32, 33, 34, 35, 36, 37, 38, 39, 40, 41, 42, 43, 44, 45, 46, 47, 48, 49, 50, 51, 52, 53, 54, 55, 56, 57, 58, 59, 60, 61, 62, 63, 184, 185, 186, 187, 188, 189, 190, 191, 192, 193, 194, 195, 196] (by decide +kernel) (by decide +kernel)
set_option maxRecDepth 20000 in
theorem gL_told_X5_person : GoodIn wsL_told (wsV RL 26 RX5 yX5_person wsX5_person) := goodIn_app (goodIn_of _ (by decide +kernel)) ggL_told_X5_person
theorem dL_told_0 : decode cL_told 0 = .ok (.ldc2_w 8, 3) := by decide +kernel
theorem dL_told_3 : decode cL_told 3 = .ok (.lstore_n 1, 1) := by decide +kernel
theorem dL_told_4 : decode cL_told 4 = .ok (.iconst 0, 1) := by decide +kernel
theorem dL_told_5 : decode cL_told 5 = .ok (.istore_n 3, 1) := by decide +kernel
theorem dL_told_6 : decode cL_told 6 = .ok (.iload_n 3, 1) := by decide +kernel
theorem dL_told_7 : decode cL_told 7 = .ok (.bipush 6, 2) := by decide +kernel
theorem dL_told_9 : decode cL_told 9 = .ok (.if_icmp .ge 22, 3) := by decide +kernel
theorem dL_told_12 : decode cL_told 12 = .ok (.ldc2_w 10, 3) := by decide +kernel
theorem dL_told_15 : decode cL_told 15 = .ok (.lload_n 1, 1) := by decide +kernel
theorem dL_told_16 : decode cL_told 16 = .ok (.lmul, 1) := by decide +kernel
theorem dL_told_17 : decode cL_told 17 = .ok (.aload_n 0, 1) := by decide +kernel
theorem dL_told_18 : decode cL_told 18 = .ok (.iload_n 3, 1) := by decide +kernel
theorem dL_told_19 : decode cL_told 19 = .ok (.invokevirtual 12, 3) := by decide +kernel
theorem dL_told_22 : decode cL_told 22 = .ok (.i2l, 1) := by decide +kernel
theorem dL_told_23 : decode cL_told 23 = .ok (.ladd, 1) := by decide +kernel
theorem dL_told_24 : decode cL_told 24 = .ok (.lstore_n 1, 1) := by decide +kernel
theorem dL_told_25 : decode cL_told 25 = .ok (.iinc 3 1, 3) := by decide +kernel
theorem dL_told_28 : decode cL_told 28 = .ok (.goto (-22), 3) := by decide +kernel
theorem dL_told_31 : decode cL_told 31 = .ok (.iconst 0, 1) := by decide +kernel
theorem dL_told_32 : decode cL_told 32 = .ok (.istore_n 3, 1) := by decide +kernel
theorem dL_told_33 : decode cL_told 33 = .ok (.iload_n 3, 1) := by decide +kernel
theorem dL_told_34 : decode cL_told 34 = .ok (.bipush 64, 2) := by decide +kernel
theorem dL_told_36 : decode cL_told 36 = .ok (.if_icmp .ge 68, 3) := by decide +kernel
theorem dL_told_39 : decode cL_told 39 = .ok (.ldc2_w 10, 3) := by decide +kernel
theorem dL_told_42 : decode cL_told 42 = .ok (.ldc2_w 10, 3) := by decide +kernel
theorem dL_told_45 : decode cL_told 45 = .ok (.ldc2_w 10, 3) := by decide +kernel
theorem dL_told_48 : decode cL_told 48 = .ok (.lload_n 1, 1) := by decide +kernel
theorem dL_told_49 : decode cL_told 49 = .ok (.lmul, 1) := by decide +kernel
theorem dL_told_50 : decode cL_told 50 = .ok (.aload_n 0, 1) := by decide +kernel
theorem dL_told_51 : decode cL_told 51 = .ok (.iload_n 3, 1) := by decide +kernel
theorem dL_told_52 : decode cL_told 52 = .ok (.bipush 8, 2) := by decide +kernel
theorem dL_told_54 : decode cL_told 54 = .ok (.idiv, 1) := by decide +kernel
theorem dL_told_55 : decode cL_told 55 = .ok (.iload_n 3, 1) := by decide +kernel
theorem dL_told_56 : decode cL_told 56 = .ok (.bipush 8, 2) := by decide +kernel
theorem dL_told_58 : decode cL_told 58 = .ok (.irem, 1) := by decide +kernel
theorem dL_told_59 : decode cL_told 59 = .ok (.iconst 0, 1) := by decide +kernel
theorem dL_told_60 : decode cL_told 60 = .ok (.invokevirtual 18, 3) := by decide +kernel
theorem dL_told_63 : decode cL_told 63 = .ok (.i2l, 1) := by decide +kernel
theorem dL_told_64 : decode cL_told 64 = .ok (.ladd, 1) := by decide +kernel
theorem dL_told_65 : decode cL_told 65 = .ok (.lmul, 1) := by decide +kernel
theorem dL_told_66 : decode cL_told 66 = .ok (.aload_n 0, 1) := by decide +kernel
theorem dL_told_67 : decode cL_told 67 = .ok (.iload_n 3, 1) := by decide +kernel
theorem dL_told_68 : decode cL_told 68 = .ok (.bipush 8, 2) := by decide +kernel
theorem dL_told_70 : decode cL_told 70 = .ok (.idiv, 1) := by decide +kernel
theorem dL_told_71 : decode cL_told 71 = .ok (.iload_n 3, 1) := by decide +kernel
theorem dL_told_72 : decode cL_told 72 = .ok (.bipush 8, 2) := by decide +kernel
theorem dL_told_74 : decode cL_told 74 = .ok (.irem, 1) := by decide +kernel
theorem dL_told_75 : decode cL_told 75 = .ok (.iconst 1, 1) := by decide +kernel
theorem dL_told_76 : decode cL_told 76 = .ok (.invokevirtual 18, 3) := by decide +kernel
theorem dL_told_79 : decode cL_told 79 = .ok (.i2l, 1) := by decide +kernel
theorem dL_told_80 : decode cL_told 80 = .ok (.ladd, 1) := by decide +kernel
theorem dL_told_81 : decode cL_told 81 = .ok (.lmul, 1) := by decide +kernel
theorem dL_told_82 : decode cL_told 82 = .ok (.aload_n 0, 1) := by decide +kernel
theorem dL_told_83 : decode cL_told 83 = .ok (.iload_n 3, 1) := by decide +kernel
theorem dL_told_84 : decode cL_told 84 = .ok (.bipush 8, 2) := by decide +kernel
theorem dL_told_86 : decode cL_told 86 = .ok (.idiv, 1) := by decide +kernel
theorem dL_told_87 : decode cL_told 87 = .ok (.iload_n 3, 1) := by decide +kernel
theorem dL_told_88 : decode cL_told 88 = .ok (.bipush 8, 2) := by decide +kernel
theorem dL_told_90 : decode cL_told 90 = .ok (.irem, 1) := by decide +kernel
theorem dL_told_91 : decode cL_told 91 = .ok (.iconst 2, 1) := by decide +kernel
theorem dL_told_92 : decode cL_told 92 = .ok (.invokevirtual 18, 3) := by decide +kernel
theorem dL_told_95 : decode cL_told 95 = .ok (.i2l, 1) := by decide +kernel
theorem dL_told_96 : decode cL_told 96 = .ok (.ladd, 1) := by decide +kernel
theorem dL_told_97 : decode cL_told 97 = .ok (.lstore_n 1, 1) := by decide +kernel
theorem dL_told_98 : decode cL_told 98 = .ok (.iinc 3 1, 3) := by decide +kernel
theorem dL_told_101 : decode cL_told 101 = .ok (.goto (-68), 3) := by decide +kernel
theorem dL_told_104 : decode cL_told 104 = .ok (.iconst 0, 1) := by decide +kernel
theorem dL_told_105 : decode cL_told 105 = .ok (.istore_n 3, 1) := by decide +kernel
theorem dL_told_106 : decode cL_told 106 = .ok (.iload_n 3, 1) := by decide +kernel
theorem dL_told_107 : decode cL_told 107 = .ok (.bipush 16, 2) := by decide +kernel
theorem dL_told_109 : decode cL_told 109 = .ok (.if_icmp .ge 53, 3) := by decide +kernel
theorem dL_told_112 : decode cL_told 112 = .ok (.ldc2_w 10, 3) := by decide +kernel
theorem dL_told_115 : decode cL_told 115 = .ok (.ldc2_w 10, 3) := by decide +kernel
theorem dL_told_118 : decode cL_told 118 = .ok (.lload_n 1, 1) := by decide +kernel
theorem dL_told_119 : decode cL_told 119 = .ok (.lmul, 1) := by decide +kernel
theorem dL_told_120 : decode cL_told 120 = .ok (.aload_n 0, 1) := by decide +kernel
theorem dL_told_121 : decode cL_told 121 = .ok (.iload_n 3, 1) := by decide +kernel
theorem dL_told_122 : decode cL_told 122 = .ok (.iconst 4, 1) := by decide +kernel
theorem dL_told_123 : decode cL_told 123 = .ok (.idiv, 1) := by decide +kernel
theorem dL_told_124 : decode cL_told 124 = .ok (.iload_n 3, 1) := by decide +kernel
theorem dL_told_125 : decode cL_told 125 = .ok (.iconst 4, 1) := by decide +kernel
theorem dL_told_126 : decode cL_told 126 = .ok (.irem, 1) := by decide +kernel
theorem dL_told_127 : decode cL_told 127 = .ok (.invokevirtual 22, 3) := by decide +kernel
theorem dL_told_130 : decode cL_told 130 = .ok (.i2l, 1) := by decide +kernel
theorem dL_told_131 : decode cL_told 131 = .ok (.ladd, 1) := by decide +kernel
theorem dL_told_132 : decode cL_told 132 = .ok (.lmul, 1) := by decide +kernel
theorem dL_told_133 : decode cL_told 133 = .ok (.aload_n 0, 1) := by decide +kernel
theorem dL_told_134 : decode cL_told 134 = .ok (.iload_n 3, 1) := by decide +kernel
theorem dL_told_135 : decode cL_told 135 = .ok (.bipush 8, 2) := by decide +kernel
theorem dL_told_137 : decode cL_told 137 = .ok (.if_icmp .ge 7, 3) := by decide +kernel
theorem dL_told_140 : decode cL_told 140 = .ok (.iconst 1, 1) := by decide +kernel
theorem dL_told_141 : decode cL_told 141 = .ok (.goto 4, 3) := by decide +kernel
theorem dL_told_144 : decode cL_told 144 = .ok (.iconst 0, 1) := by decide +kernel
theorem dL_told_145 : decode cL_told 145 = .ok (.iload_n 3, 1) := by decide +kernel
theorem dL_told_146 : decode cL_told 146 = .ok (.bipush 8, 2) := by decide +kernel
theorem dL_told_148 : decode cL_told 148 = .ok (.irem, 1) := by decide +kernel
theorem dL_told_149 : decode cL_told 149 = .ok (.iconst 0, 1) := by decide +kernel
theorem dL_told_150 : decode cL_told 150 = .ok (.invokevirtual 26, 3) := by decide +kernel
theorem dL_told_153 : decode cL_told 153 = .ok (.i2l, 1) := by decide +kernel
theorem dL_told_154 : decode cL_told 154 = .ok (.ladd, 1) := by decide +kernel
theorem dL_told_155 : decode cL_told 155 = .ok (.lstore_n 1, 1) := by decide +kernel
theorem dL_told_156 : decode cL_told 156 = .ok (.iinc 3 1, 3) := by decide +kernel
theorem dL_told_159 : decode cL_told 159 = .ok (.goto (-53), 3) := by decide +kernel
theorem dL_told_162 : decode cL_told 162 = .ok (.lload_n 1, 1) := by decide +kernel
theorem dL_told_163 : decode cL_told 163 = .ok (.lreturn, 1) := by decide +kernel
set_option maxRecDepth 20000 in
theorem ggL_act_L_low : GoodIn wsL_act wsL_low := goodIn_r _ [4, 5] (by decide +kernel) (by decide +kernel)
set_option maxRecDepth 20000 in
theorem gL_act_L_low : GoodIn wsL_act (va_wsS RL 30 yL_low wsL_low) := goodIn_app (goodIn_of _ (by decide +kernel)) ggL_act_L_low
set_option maxRecDepth 20000 in
theorem ggL_act_X5_wish : GoodIn wsL_act wsX5_wish := goodIn_r _ [10, 11, 12, 13, 14, 9, 15, 16, 17, 18, 19, 20, 21, 22, 23, 24, 25, 26, 27, 28, 29, 30, 31, 32, 33, 34, 35, 36, 37, 38, 39, 40, 41, 42, 43, 44, 45, 46, 47, 48, 49, 50, 51, 52, 53, 54, 55, 56, 57, 58, 59, 60, 61, 205, 206, 207, 208, 209, 210, 211, 212, 213, 214, 215, 216] (by decide +kernel) (by decide +kernel)
set_option maxRecDepth 20000 in
theorem gL_act_X5_wish : GoodIn wsL_act (wsV RL 35 RX5 yX5_wish wsX5_wish) := goodIn_app (goodIn_of _ (by decide +kernel)) ggL_act_X5_wish
set_option maxRecDepth 20000 in
theorem ggL_act_X5_withdraw : GoodIn wsL_act wsX5_withdraw := goodIn_r _ [65, 11, 12, 13, 14, 9, 15, 16, 17, 18, 19, 20, 21, 22, 23, 24, 25, 26, 27, 28, 29, 30, 31, 32, 33, 34, 35, 36, 37, 38, 39, 40, 41, 42, 66, 67, 68, 69, 51, 52, 53, 54, 55, 56, 57, 58, 59, 60, 61, 205, 206, 207, 208, 209, 210, 211, 212, 213, 214, 215, 216] (by decide +kernel) (by decide +kernel)
set_option maxRecDepth 20000 in
theorem gL_act_X5_withdraw : GoodIn wsL_act (wsV RL 38 RX5 yX5_withdraw wsX5_withdraw) := goodIn_app (goodIn_of _ (by decide +kernel)) ggL_act_X5_withdraw
set_option maxRecDepth 20000 in
theorem ggL_act_X5_quarrel : GoodIn wsL_act wsX5_quarrel := goodIn_r _ [73, 12, 11, 13, 14, 9, 15, 16, 17, 18, 27, 28, 29, 30, 31, 32, 33, 34, 35, 36, 37, 38, 39, 40, 41, 42, 74, 75, 76, 22, 77, 24, 78, 79, 80, 81, 205, 206, 207, 208, 209, 210, 211, 212, 214, 215, 216, 213] (by decide +kernel) (by decide +kernel)
set_option maxRecDepth 20000 in
theorem gL_act_X5_quarrel : GoodIn wsL_act (wsV RL 41 RX5 yX5_quarrel wsX5_quarrel) := goodIn_app (goodIn_of _ (by decide +kernel)) ggL_act_X5_quarrel
set_option maxRecDepth 20000 in
theorem ggL_act_X5_reconcile : GoodIn wsL_act wsX5_reconcile := goodIn_r _ [85, 11, 12, 13, 14, 9, 15, 16, 17, 18, 74, 75, 76, 22, 77, 24, 27, 28, 29, 30, 31, 32, 33, 34, 35, 36, 37, 38, 39, 40, 41, 42, 78, 79, 80, 81, 205, 206, 207, 208, 209, 210, 211, 212, 213, 214, 215, 216] (by decide +kernel) (by decide +kernel)
set_option maxRecDepth 20000 in
theorem gL_act_X5_reconcile : GoodIn wsL_act (wsV RL 44 RX5 yX5_reconcile wsX5_reconcile) := goodIn_app (goodIn_of _ (by decide +kernel)) ggL_act_X5_reconcile
set_option maxRecDepth 20000 in
theorem ggL_act_X5_restore : GoodIn wsL_act wsX5_restore := goodIn_r _ [89, 90, 12, 11, 91, 27, 28, 29, 30, 31, 32, 33, 34, 35, 36, 37, 38, 39, 40, 41, 42, 92, 93, 94, 22, 95, 24, 96, 51, 52, 53, 54, 55, 56, 57, 58, 59, 60, 61, 205, 206, 207, 208, 209, 210, 211, 212, 214, 215, 216, 213] (by decide +kernel) (by decide +kernel)
set_option maxRecDepth 20000 in
theorem gL_act_X5_restore : GoodIn wsL_act (wsV RL 47 RX5 yX5_restore wsX5_restore) := goodIn_app (goodIn_of _ (by decide +kernel)) ggL_act_X5_restore
set_option maxRecDepth 20000 in
theorem ggL_act_X5_link : GoodIn wsL_act wsX5_link := goodIn_r _ [100, 12, 11, 101, 102, 9, 103, 27, 28, 29, 30, 31, 32, 33, 34, 35, 36, 37, 38, 39, 40, 41, 42, 104, 105, 106, 22, 107, 24, 25, 26, 108, 109, 110, 111, 112, 113, 114, 205, 206, 207, 208, 209, 210, 211, 212, 214, 215, 216, 213] (by decide +kernel) (by decide +kernel)
set_option maxRecDepth 20000 in
theorem gL_act_X5_link : GoodIn wsL_act (wsV RL 51 RX5 yX5_link wsX5_link) := goodIn_app (goodIn_of _ (by decide +kernel)) ggL_act_X5_link
set_option maxRecDepth 20000 in
theorem ggL_act_X5_move : GoodIn wsL_act wsX5_move := goodIn_r _ [118, 12, 11, 16, 17, 9, 18, 101, 102, 103, 27, 28, 29, 30, 31, 32, 33, 34, 35, 36, 37, 38, 39, 40, 41, 42, 119, 120, 121, 22, 122, 24, 123, 124, 125, 126, 205, 206, 207, 208, 209, 210, 211, 212, 214, 215, 216, 213] (by decide +kernel) (by decide +kernel)
set_option maxRecDepth 20000 in
theorem gL_act_X5_move : GoodIn wsL_act (wsV RL 55 RX5 yX5_move wsX5_move) := goodIn_app (goodIn_of _ (by decide +kernel)) ggL_act_X5_move
set_option maxRecDepth 20000 in
theorem ggL_act_X5_round : GoodIn wsL_act wsX5_round := goodIn_r _ [130, 12, 11, 27, 28, 29, 30, 31, 32, 33, 34, 35, 36, 37, 38, 39, 40, 41, 42, 131, 132, 133, 9, 134, 135, 136, 137, 138, 139, 140, 141, 142, 143, 144, 145, 146, 147, 148, 149, 150, 151, 152, 153, 154, 22, 155, 156, 20, 21, 23, 24, 25, 26, 157, 158, 159, 160, 161, 75, 76, 77, 162, 163, 164, 165, 166, 167, 168, 169, 170, 171, 172, 173, 174, 175, 176, 177, 178, 179, 17, 18, 180, 181, 182, 183, 184, 185, 186, 187, 188, 189, 190, 191, 16, 192, 193, 194, 195, 196, 67, 68, 69, 197, 198, 199, 200, 201, 202, 203, 204, 109, 110, 205, 206, 207, 208, 209, 210, 211, 212, 214, 215, 216, 213, 217, 218, 219, 220, 221] (by decide +kernel) (by decide +kernel)
set_option maxRecDepth 20000 in
theorem gL_act_X5_round : GoodIn wsL_act (wsV RL 58 RX5 yX5_round wsX5_round) := goodIn_app (goodIn_of _ (by decide +kernel)) ggL_act_X5_round
theorem dL_act_0 : decode cL_act 0 = .ok (.iload_n 1, 1) := by decide +kernel
theorem dL_act_1 : decode cL_act 1 = .ok (.iconst 4, 1) := by decide +kernel
theorem dL_act_2 : decode cL_act 2 = .ok (.ishr, 1) := by decide +kernel
theorem dL_act_3 : decode cL_act 3 = .ok (.bipush 9, 2) := by decide +kernel
theorem dL_act_5 : decode cL_act 5 = .ok (.invokestatic 30, 3) := by decide +kernel
