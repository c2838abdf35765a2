theorem dX0_peopleToMeet_1 : decode cX0_peopleToMeet 1 = .ok (.istore_n 3, 1) := by decide +kernel
theorem dX0_peopleToMeet_2 : decode cX0_peopleToMeet 2 = .ok (.iconst 0, 1) := by decide +kernel
theorem dX0_peopleToMeet_3 : decode cX0_peopleToMeet 3 = .ok (.istore 4, 2) := by decide +kernel
theorem dX0_peopleToMeet_5 : decode cX0_peopleToMeet 5 = .ok (.iload 4, 2) := by decide +kernel
theorem dX0_peopleToMeet_7 : decode cX0_peopleToMeet 7 = .ok (.bipush 8, 2) := by decide +kernel
theorem dX0_peopleToMeet_9 : decode cX0_peopleToMeet 9 = .ok (.if_icmp .ge 43, 3) := by decide +kernel
theorem dX0_peopleToMeet_12 : decode cX0_peopleToMeet 12 = .ok (.iload_n 1, 1) := by decide +kernel
theorem dX0_peopleToMeet_13 : decode cX0_peopleToMeet 13 = .ok (.ifCond .eq 16, 3) := by decide +kernel
theorem dX0_peopleToMeet_16 : decode cX0_peopleToMeet 16 = .ok (.aload_n 0, 1) := by decide +kernel
theorem dX0_peopleToMeet_17 : decode cX0_peopleToMeet 17 = .ok (.iload_n 2, 1) := by decide +kernel
theorem dX0_peopleToMeet_18 : decode cX0_peopleToMeet 18 = .ok (.iload 4, 2) := by decide +kernel
theorem dX0_peopleToMeet_20 : decode cX0_peopleToMeet 20 = .ok (.invokevirtual 45, 3) := by decide +kernel
theorem dX0_peopleToMeet_23 : decode cX0_peopleToMeet 23 = .ok (.ifCond .eq 23, 3) := by decide +kernel
theorem dX0_peopleToMeet_26 : decode cX0_peopleToMeet 26 = .ok (.goto 13, 3) := by decide +kernel
theorem dX0_peopleToMeet_29 : decode cX0_peopleToMeet 29 = .ok (.aload_n 0, 1) := by decide +kernel
theorem dX0_peopleToMeet_30 : decode cX0_peopleToMeet 30 = .ok (.iload 4, 2) := by decide +kernel
theorem dX0_peopleToMeet_32 : decode cX0_peopleToMeet 32 = .ok (.iload_n 2, 1) := by decide +kernel
theorem dX0_peopleToMeet_33 : decode cX0_peopleToMeet 33 = .ok (.invokevirtual 45, 3) := by decide +kernel
theorem dX0_peopleToMeet_36 : decode cX0_peopleToMeet 36 = .ok (.ifCond .eq 10, 3) := by decide +kernel
theorem dX0_peopleToMeet_39 : decode cX0_peopleToMeet 39 = .ok (.iload_n 3, 1) := by decide +kernel
theorem dX0_peopleToMeet_40 : decode cX0_peopleToMeet 40 = .ok (.iconst 1, 1) := by decide +kernel
theorem dX0_peopleToMeet_41 : decode cX0_peopleToMeet 41 = .ok (.iload 4, 2) := by decide +kernel
theorem dX0_peopleToMeet_43 : decode cX0_peopleToMeet 43 = .ok (.ishl, 1) := by decide +kernel
theorem dX0_peopleToMeet_44 : decode cX0_peopleToMeet 44 = .ok (.ior, 1) := by decide +kernel
theorem dX0_peopleToMeet_45 : decode cX0_peopleToMeet 45 = .ok (.istore_n 3, 1) := by decide +kernel
theorem dX0_peopleToMeet_46 : decode cX0_peopleToMeet 46 = .ok (.iinc 4 1, 3) := by decide +kernel
theorem dX0_peopleToMeet_49 : decode cX0_peopleToMeet 49 = .ok (.goto (-44), 3) := by decide +kernel
theorem dX0_peopleToMeet_52 : decode cX0_peopleToMeet 52 = .ok (.iload_n 3, 1) := by decide +kernel
theorem dX0_peopleToMeet_53 : decode cX0_peopleToMeet 53 = .ok (.ireturn, 1) := by decide +kernel
set_option maxRecDepth 20000 in
theorem ggX0_hasWishOverUnlinkedGates_X0_hasWish : GoodIn wsX0_hasWishOverUnlinkedGates wsX0_hasWish := goodIn_r _ [5, 6, 7, 8, 9, 14] (by decide +kernel) (by decide +kernel)
set_option maxRecDepth 20000 in
theorem gX0_hasWishOverUnlinkedGates_X0_hasWish : GoodIn wsX0_hasWishOverUnlinkedGates (wsV RX0 42 RX0 yX0_hasWish wsX0_hasWish) := goodIn_app (goodIn_of _ (by decide +kernel)) ggX0_hasWishOverUnlinkedGates_X0_hasWish
set_option maxRecDepth 20000 in
theorem ggX0_hasWishOverUnlinkedGates_X0_areAtLinkedGates : GoodIn wsX0_hasWishOverUnlinkedGates wsX0_areAtLinkedGates := goodIn_r _ [13, 6, 14] (by decide +kernel) (by decide +kernel)
set_option maxRecDepth 20000 in
theorem gX0_hasWishOverUnlinkedGates_X0_areAtLinkedGates : GoodIn wsX0_hasWishOverUnlinkedGates (wsV RX0 39 RX0 yX0_areAtLinkedGates wsX0_areAtLinkedGates) := goodIn_app (goodIn_of _ (by decide +kernel)) ggX0_hasWishOverUnlinkedGates_X0_areAtLinkedGates
theorem dX0_hasWishOverUnlinkedGates_0 : decode cX0_hasWishOverUnlinkedGates 0 = .ok (.iconst 0, 1) := by decide +kernel
theorem dX0_hasWishOverUnlinkedGates_1 : decode cX0_hasWishOverUnlinkedGates 1 = .ok (.istore_n 1, 1) := by decide +kernel
theorem dX0_hasWishOverUnlinkedGates_2 : decode cX0_hasWishOverUnlinkedGates 2 = .ok (.iload_n 1, 1) := by decide +kernel
theorem dX0_hasWishOverUnlinkedGates_3 : decode cX0_hasWishOverUnlinkedGates 3 = .ok (.bipush 8, 2) := by decide +kernel
theorem dX0_hasWishOverUnlinkedGates_5 : decode cX0_hasWishOverUnlinkedGates 5 = .ok (.if_icmp .ge 43, 3) := by decide +kernel
theorem dX0_hasWishOverUnlinkedGates_8 : decode cX0_hasWishOverUnlinkedGates 8 = .ok (.iconst 0, 1) := by decide +kernel
theorem dX0_hasWishOverUnlinkedGates_9 : decode cX0_hasWishOverUnlinkedGates 9 = .ok (.istore_n 2, 1) := by decide +kernel
theorem dX0_hasWishOverUnlinkedGates_10 : decode cX0_hasWishOverUnlinkedGates 10 = .ok (.iload_n 2, 1) := by decide +kernel
theorem dX0_hasWishOverUnlinkedGates_11 : decode cX0_hasWishOverUnlinkedGates 11 = .ok (.bipush 8, 2) := by decide +kernel
theorem dX0_hasWishOverUnlinkedGates_13 : decode cX0_hasWishOverUnlinkedGates 13 = .ok (.if_icmp .ge 29, 3) := by decide +kernel
theorem dX0_hasWishOverUnlinkedGates_16 : decode cX0_hasWishOverUnlinkedGates 16 = .ok (.aload_n 0, 1) := by decide +kernel
theorem dX0_hasWishOverUnlinkedGates_17 : decode cX0_hasWishOverUnlinkedGates 17 = .ok (.iload_n 1, 1) := by decide +kernel
theorem dX0_hasWishOverUnlinkedGates_18 : decode cX0_hasWishOverUnlinkedGates 18 = .ok (.iload_n 2, 1) := by decide +kernel
theorem dX0_hasWishOverUnlinkedGates_19 : decode cX0_hasWishOverUnlinkedGates 19 = .ok (.invokevirtual 42, 3) := by decide +kernel
theorem dX0_hasWishOverUnlinkedGates_22 : decode cX0_hasWishOverUnlinkedGates 22 = .ok (.ifCond .eq 14, 3) := by decide +kernel
theorem dX0_hasWishOverUnlinkedGates_25 : decode cX0_hasWishOverUnlinkedGates 25 = .ok (.aload_n 0, 1) := by decide +kernel
theorem dX0_hasWishOverUnlinkedGates_26 : decode cX0_hasWishOverUnlinkedGates 26 = .ok (.iload_n 1, 1) := by decide +kernel
theorem dX0_hasWishOverUnlinkedGates_27 : decode cX0_hasWishOverUnlinkedGates 27 = .ok (.iload_n 2, 1) := by decide +kernel
theorem dX0_hasWishOverUnlinkedGates_28 : decode cX0_hasWishOverUnlinkedGates 28 = .ok (.invokevirtual 39, 3) := by decide +kernel
theorem dX0_hasWishOverUnlinkedGates_31 : decode cX0_hasWishOverUnlinkedGates 31 = .ok (.ifCond .ne 5, 3) := by decide +kernel
theorem dX0_hasWishOverUnlinkedGates_34 : decode cX0_hasWishOverUnlinkedGates 34 = .ok (.iconst 1, 1) := by decide +kernel
theorem dX0_hasWishOverUnlinkedGates_35 : decode cX0_hasWishOverUnlinkedGates 35 = .ok (.ireturn, 1) := by decide +kernel
theorem dX0_hasWishOverUnlinkedGates_36 : decode cX0_hasWishOverUnlinkedGates 36 = .ok (.iinc 2 1, 3) := by decide +kernel
theorem dX0_hasWishOverUnlinkedGates_39 : decode cX0_hasWishOverUnlinkedGates 39 = .ok (.goto (-29), 3) := by decide +kernel
theorem dX0_hasWishOverUnlinkedGates_42 : decode cX0_hasWishOverUnlinkedGates 42 = .ok (.iinc 1 1, 3) := by decide +kernel
theorem dX0_hasWishOverUnlinkedGates_45 : decode cX0_hasWishOverUnlinkedGates 45 = .ok (.goto (-43), 3) := by decide +kernel
theorem dX0_hasWishOverUnlinkedGates_48 : decode cX0_hasWishOverUnlinkedGates 48 = .ok (.iconst 0, 1) := by decide +kernel
theorem dX0_hasWishOverUnlinkedGates_49 : decode cX0_hasWishOverUnlinkedGates 49 = .ok (.ireturn, 1) := by decide +kernel
set_option maxRecDepth 20000 in
theorem ggX0_amountOfPair_X0_hasWish : GoodIn wsX0_amountOfPair wsX0_hasWish := goodIn_r _ [5, 6, 7, 8, 9, 32] (by decide +kernel) (by decide +kernel)
set_option maxRecDepth 20000 in
theorem gX0_amountOfPair_X0_hasWish : GoodIn wsX0_amountOfPair (wsV RX0 42 RX0 yX0_hasWish wsX0_hasWish) := goodIn_app (goodIn_of _ (by decide +kernel)) ggX0_amountOfPair_X0_hasWish
set_option maxRecDepth 20000 in
theorem ggX0_amountOfPair_X5_asNumber : GoodIn wsX0_amountOfPair wsX5_asNumber := goodIn_r _ [11] (by decide +kernel) (by decide +kernel)
set_option maxRecDepth 20000 in
theorem gX0_amountOfPair_X5_asNumber_n48 : GoodIn wsX0_amountOfPair (wsX5_asNumber) := ggX0_amountOfPair_X5_asNumber
set_option maxRecDepth 20000 in
theorem ggX0_amountOfPair_X0_isPossible : GoodIn wsX0_amountOfPair wsX0_isPossible := goodIn_r _ [15, 1, 2, 3, 4, 5, 6, 7, 8, 9, 16, 17, 18, 19, 20, 21, 22, 23, 24, 25, 26, 27, 32] (by decide +kernel) (by decide +kernel)
set_option maxRecDepth 20000 in
theorem gX0_amountOfPair_X0_isPossible : GoodIn wsX0_amountOfPair (wsV RX0 52 RX0 yX0_isPossible wsX0_isPossible) := goodIn_app (goodIn_of _ (by decide +kernel)) ggX0_amountOfPair_X0_isPossible
set_option maxRecDepth 20000 in
theorem ggX0_amountOfPair_X0_feudOf : GoodIn wsX0_amountOfPair wsX0_feudOf := goodIn_r _ [23, 6, 32] (by decide +kernel) (by decide +kernel)
set_option maxRecDepth 20000 in
theorem gX0_amountOfPair_X0_feudOf : GoodIn wsX0_amountOfPair (wsV RX0 35 RX0 yX0_feudOf wsX0_feudOf) := goodIn_app (goodIn_of _ (by decide +kernel)) ggX0_amountOfPair_X0_feudOf
set_option maxRecDepth 20000 in
theorem ggX0_amountOfPair_X0_handshakesOf : GoodIn wsX0_amountOfPair wsX0_handshakesOf := goodIn_r _ [31, 6, 32] (by decide +kernel) (by decide +kernel)
set_option maxRecDepth 20000 in
theorem gX0_amountOfPair_X0_handshakesOf : GoodIn wsX0_amountOfPair (wsV RX0 55 RX0 yX0_handshakesOf wsX0_handshakesOf) := goodIn_app (goodIn_of _ (by decide +kernel)) ggX0_amountOfPair_X0_handshakesOf
theorem dX0_amountOfPair_0 : decode cX0_amountOfPair 0 = .ok (.iload_n 3, 1) := by decide +kernel
theorem dX0_amountOfPair_1 : decode cX0_amountOfPair 1 = .ok (.tableswitch 76 1 4 #[31, 41, 51, 69], 31) := by decide +kernel
theorem dX0_amountOfPair_32 : decode cX0_amountOfPair 32 = .ok (.aload_n 0, 1) := by decide +kernel
theorem dX0_amountOfPair_33 : decode cX0_amountOfPair 33 = .ok (.iload_n 1, 1) := by decide +kernel
theorem dX0_amountOfPair_34 : decode cX0_amountOfPair 34 = .ok (.iload_n 2, 1) := by decide +kernel
theorem dX0_amountOfPair_35 : decode cX0_amountOfPair 35 = .ok (.invokevirtual 42, 3) := by decide +kernel
theorem dX0_amountOfPair_38 : decode cX0_amountOfPair 38 = .ok (.invokestatic 48, 3) := by decide +kernel
theorem dX0_amountOfPair_41 : decode cX0_amountOfPair 41 = .ok (.ireturn, 1) := by decide +kernel
theorem dX0_amountOfPair_42 : decode cX0_amountOfPair 42 = .ok (.aload_n 0, 1) := by decide +kernel
theorem dX0_amountOfPair_43 : decode cX0_amountOfPair 43 = .ok (.iload_n 1, 1) := by decide +kernel
theorem dX0_amountOfPair_44 : decode cX0_amountOfPair 44 = .ok (.iload_n 2, 1) := by decide +kernel
theorem dX0_amountOfPair_45 : decode cX0_amountOfPair 45 = .ok (.invokevirtual 52, 3) := by decide +kernel
theorem dX0_amountOfPair_48 : decode cX0_amountOfPair 48 = .ok (.invokestatic 48, 3) := by decide +kernel
theorem dX0_amountOfPair_51 : decode cX0_amountOfPair 51 = .ok (.ireturn, 1) := by decide +kernel
theorem dX0_amountOfPair_52 : decode cX0_amountOfPair 52 = .ok (.aload_n 0, 1) := by decide +kernel
theorem dX0_amountOfPair_53 : decode cX0_amountOfPair 53 = .ok (.iload_n 1, 1) := by decide +kernel
theorem dX0_amountOfPair_54 : decode cX0_amountOfPair 54 = .ok (.iload_n 2, 1) := by decide +kernel
theorem dX0_amountOfPair_55 : decode cX0_amountOfPair 55 = .ok (.invokevirtual 35, 3) := by decide +kernel
theorem dX0_amountOfPair_58 : decode cX0_amountOfPair 58 = .ok (.ifCond .le 7, 3) := by decide +kernel
theorem dX0_amountOfPair_61 : decode cX0_amountOfPair 61 = .ok (.iconst 1, 1) := by decide +kernel
theorem dX0_amountOfPair_62 : decode cX0_amountOfPair 62 = .ok (.goto 4, 3) := by decide +kernel
theorem dX0_amountOfPair_65 : decode cX0_amountOfPair 65 = .ok (.iconst 0, 1) := by decide +kernel
theorem dX0_amountOfPair_66 : decode cX0_amountOfPair 66 = .ok (.invokestatic 48, 3) := by decide +kernel
theorem dX0_amountOfPair_69 : decode cX0_amountOfPair 69 = .ok (.ireturn, 1) := by decide +kernel
theorem dX0_amountOfPair_70 : decode cX0_amountOfPair 70 = .ok (.aload_n 0, 1) := by decide +kernel
theorem dX0_amountOfPair_71 : decode cX0_amountOfPair 71 = .ok (.iload_n 1, 1) := by decide +kernel
theorem dX0_amountOfPair_72 : decode cX0_amountOfPair 72 = .ok (.iload_n 2, 1) := by decide +kernel
theorem dX0_amountOfPair_73 : decode cX0_amountOfPair 73 = .ok (.invokevirtual 55, 3) := by decide +kernel
theorem dX0_amountOfPair_76 : decode cX0_amountOfPair 76 = .ok (.ireturn, 1) := by decide +kernel
theorem dX0_amountOfPair_77 : decode cX0_amountOfPair 77 = .ok (.iconst 0, 1) := by decide +kernel
theorem dX0_amountOfPair_78 : decode cX0_amountOfPair 78 = .ok (.ireturn, 1) := by decide +kernel
set_option maxRecDepth 20000 in
theorem ggX0_amountOfPerson_X0_amountOfPair : GoodIn wsX0_amountOfPerson wsX0_amountOfPair := goodIn_r _ [5, 6, 7, 8, 4, 9, 10, 11, 12, 13, 14, 15, 16, 17, 18, 19, 20, 21, 22, 23, 24, 25, 26, 27, 28, 29, 30, 31, 32, 33, 34, 35, 36] (by decide +kernel) (by decide +kernel)
set_option maxRecDepth 20000 in
theorem gX0_amountOfPerson_X0_amountOfPair : GoodIn wsX0_amountOfPerson (wsV RX0 58 RX0 yX0_amountOfPair wsX0_amountOfPair) := goodIn_app (goodIn_of _ (by decide +kernel)) ggX0_amountOfPerson_X0_amountOfPair
theorem dX0_amountOfPerson_0 : decode cX0_amountOfPerson 0 = .ok (.iconst 0, 1) := by decide +kernel
theorem dX0_amountOfPerson_1 : decode cX0_amountOfPerson 1 = .ok (.istore 4, 2) := by decide +kernel
theorem dX0_amountOfPerson_3 : decode cX0_amountOfPerson 3 = .ok (.iconst 0, 1) := by decide +kernel
theorem dX0_amountOfPerson_4 : decode cX0_amountOfPerson 4 = .ok (.istore 5, 2) := by decide +kernel
theorem dX0_amountOfPerson_6 : decode cX0_amountOfPerson 6 = .ok (.iload 5, 2) := by decide +kernel
theorem dX0_amountOfPerson_8 : decode cX0_amountOfPerson 8 = .ok (.bipush 8, 2) := by decide +kernel
theorem dX0_amountOfPerson_10 : decode cX0_amountOfPerson 10 = .ok (.if_icmp .ge 37, 3) := by decide +kernel
theorem dX0_amountOfPerson_13 : decode cX0_amountOfPerson 13 = .ok (.iload 4, 2) := by decide +kernel
theorem dX0_amountOfPerson_15 : decode cX0_amountOfPerson 15 = .ok (.iload_n 1, 1) := by decide +kernel
theorem dX0_amountOfPerson_16 : decode cX0_amountOfPerson 16 = .ok (.ifCond .eq 14, 3) := by decide +kernel
theorem dX0_amountOfPerson_19 : decode cX0_amountOfPerson 19 = .ok (.aload_n 0, 1) := by decide +kernel
theorem dX0_amountOfPerson_20 : decode cX0_amountOfPerson 20 = .ok (.iload_n 2, 1) := by decide +kernel
theorem dX0_amountOfPerson_21 : decode cX0_amountOfPerson 21 = .ok (.iload 5, 2) := by decide +kernel
theorem dX0_amountOfPerson_23 : decode cX0_amountOfPerson 23 = .ok (.iload_n 3, 1) := by decide +kernel
theorem dX0_amountOfPerson_24 : decode cX0_amountOfPerson 24 = .ok (.invokevirtual 58, 3) := by decide +kernel
theorem dX0_amountOfPerson_27 : decode cX0_amountOfPerson 27 = .ok (.goto 11, 3) := by decide +kernel
theorem dX0_amountOfPerson_30 : decode cX0_amountOfPerson 30 = .ok (.aload_n 0, 1) := by decide +kernel
theorem dX0_amountOfPerson_31 : decode cX0_amountOfPerson 31 = .ok (.iload 5, 2) := by decide +kernel
theorem dX0_amountOfPerson_33 : decode cX0_amountOfPerson 33 = .ok (.iload_n 2, 1) := by decide +kernel
theorem dX0_amountOfPerson_34 : decode cX0_amountOfPerson 34 = .ok (.iload_n 3, 1) := by decide +kernel
theorem dX0_amountOfPerson_35 : decode cX0_amountOfPerson 35 = .ok (.invokevirtual 58, 3) := by decide +kernel
theorem dX0_amountOfPerson_38 : decode cX0_amountOfPerson 38 = .ok (.iadd, 1) := by decide +kernel
theorem dX0_amountOfPerson_39 : decode cX0_amountOfPerson 39 = .ok (.istore 4, 2) := by decide +kernel
theorem dX0_amountOfPerson_41 : decode cX0_amountOfPerson 41 = .ok (.iinc 5 1, 3) := by decide +kernel
theorem dX0_amountOfPerson_44 : decode cX0_amountOfPerson 44 = .ok (.goto (-38), 3) := by decide +kernel
theorem dX0_amountOfPerson_47 : decode cX0_amountOfPerson 47 = .ok (.iload 4, 2) := by decide +kernel
theorem dX0_amountOfPerson_49 : decode cX0_amountOfPerson 49 = .ok (.ireturn, 1) := by decide +kernel
set_option maxRecDepth 20000 in
theorem ggX0_amountOfAll_X0_amountOfPerson : GoodIn wsX0_amountOfAll wsX0_amountOfPerson := goodIn_r _ [5, 6, 7, 8, 4, 9, 10, 11, 12, 13, 14, 15, 16, 17, 18, 19, 20, 21, 22, 23, 24, 25, 26, 27, 28, 29, 30, 31, 32, 33, 34, 35, 36, 37, 38, 39, 40] (by decide +kernel) (by decide +kernel)
set_option maxRecDepth 20000 in
theorem gX0_amountOfAll_X0_amountOfPerson : GoodIn wsX0_amountOfAll (wsV RX0 62 RX0 yX0_amountOfPerson wsX0_amountOfPerson) := goodIn_app (goodIn_of _ (by decide +kernel)) ggX0_amountOfAll_X0_amountOfPerson
theorem dX0_amountOfAll_0 : decode cX0_amountOfAll 0 = .ok (.iconst 0, 1) := by decide +kernel
theorem dX0_amountOfAll_1 : decode cX0_amountOfAll 1 = .ok (.istore_n 2, 1) := by decide +kernel
theorem dX0_amountOfAll_2 : decode cX0_amountOfAll 2 = .ok (.iconst 0, 1) := by decide +kernel
theorem dX0_amountOfAll_3 : decode cX0_amountOfAll 3 = .ok (.istore_n 3, 1) := by decide +kernel
theorem dX0_amountOfAll_4 : decode cX0_amountOfAll 4 = .ok (.iload_n 3, 1) := by decide +kernel
theorem dX0_amountOfAll_5 : decode cX0_amountOfAll 5 = .ok (.bipush 8, 2) := by decide +kernel
theorem dX0_amountOfAll_7 : decode cX0_amountOfAll 7 = .ok (.if_icmp .ge 19, 3) := by decide +kernel
theorem dX0_amountOfAll_10 : decode cX0_amountOfAll 10 = .ok (.iload_n 2, 1) := by decide +kernel
theorem dX0_amountOfAll_11 : decode cX0_amountOfAll 11 = .ok (.aload_n 0, 1) := by decide +kernel
theorem dX0_amountOfAll_12 : decode cX0_amountOfAll 12 = .ok (.iconst 1, 1) := by decide +kernel
theorem dX0_amountOfAll_13 : decode cX0_amountOfAll 13 = .ok (.iload_n 3, 1) := by decide +kernel
theorem dX0_amountOfAll_14 : decode cX0_amountOfAll 14 = .ok (.iload_n 1, 1) := by decide +kernel
theorem dX0_amountOfAll_15 : decode cX0_amountOfAll 15 = .ok (.invokevirtual 62, 3) := by decide +kernel
theorem dX0_amountOfAll_18 : decode cX0_amountOfAll 18 = .ok (.iadd, 1) := by decide +kernel
theorem dX0_amountOfAll_19 : decode cX0_amountOfAll 19 = .ok (.istore_n 2, 1) := by decide +kernel
theorem dX0_amountOfAll_20 : decode cX0_amountOfAll 20 = .ok (.iinc 3 1, 3) := by decide +kernel
theorem dX0_amountOfAll_23 : decode cX0_amountOfAll 23 = .ok (.goto (-19), 3) := by decide +kernel
theorem dX0_amountOfAll_26 : decode cX0_amountOfAll 26 = .ok (.iload_n 2, 1) := by decide +kernel
theorem dX0_amountOfAll_27 : decode cX0_amountOfAll 27 = .ok (.ireturn, 1) := by decide +kernel
set_option maxRecDepth 20000 in
theorem ggX0_numberOfWishes_J6_bitCount_0f7a4 : GoodIn wsX0_numberOfWishes wsJ6_bitCount_0f7a4 := goodIn_r _ [5, 6, 7, 8] (by decide +kernel) (by decide +kernel)
set_option maxRecDepth 20000 in
theorem gX0_numberOfWishes_J6_bitCount_0f7a4 : GoodIn wsX0_numberOfWishes (va_wsS RX0 29 yJ6_bitCount_0f7a4 wsJ6_bitCount_0f7a4) := goodIn_app (goodIn_of _ (by decide +kernel)) ggX0_numberOfWishes_J6_bitCount_0f7a4
theorem dX0_numberOfWishes_0 : decode cX0_numberOfWishes 0 = .ok (.iconst 0, 1) := by decide +kernel
theorem dX0_numberOfWishes_1 : decode cX0_numberOfWishes 1 = .ok (.istore_n 1, 1) := by decide +kernel
theorem dX0_numberOfWishes_2 : decode cX0_numberOfWishes 2 = .ok (.iconst 0, 1) := by decide +kernel
theorem dX0_numberOfWishes_3 : decode cX0_numberOfWishes 3 = .ok (.istore_n 2, 1) := by decide +kernel
theorem dX0_numberOfWishes_4 : decode cX0_numberOfWishes 4 = .ok (.iload_n 2, 1) := by decide +kernel
theorem dX0_numberOfWishes_5 : decode cX0_numberOfWishes 5 = .ok (.bipush 8, 2) := by decide +kernel
theorem dX0_numberOfWishes_7 : decode cX0_numberOfWishes 7 = .ok (.if_icmp .ge 24, 3) := by decide +kernel
theorem dX0_numberOfWishes_10 : decode cX0_numberOfWishes 10 = .ok (.iload_n 1, 1) := by decide +kernel
theorem dX0_numberOfWishes_11 : decode cX0_numberOfWishes 11 = .ok (.aload_n 0, 1) := by decide +kernel
theorem dX0_numberOfWishes_12 : decode cX0_numberOfWishes 12 = .ok (.getfield 11, 3) := by decide +kernel
theorem dX0_numberOfWishes_15 : decode cX0_numberOfWishes 15 = .ok (.bipush 16, 2) := by decide +kernel
theorem dX0_numberOfWishes_17 : decode cX0_numberOfWishes 17 = .ok (.iload_n 2, 1) := by decide +kernel
theorem dX0_numberOfWishes_18 : decode cX0_numberOfWishes 18 = .ok (.iadd, 1) := by decide +kernel
theorem dX0_numberOfWishes_19 : decode cX0_numberOfWishes 19 = .ok (.iaload, 1) := by decide +kernel
theorem dX0_numberOfWishes_20 : decode cX0_numberOfWishes 20 = .ok (.invokestatic 29, 3) := by decide +kernel
theorem dX0_numberOfWishes_23 : decode cX0_numberOfWishes 23 = .ok (.iadd, 1) := by decide +kernel
theorem dX0_numberOfWishes_24 : decode cX0_numberOfWishes 24 = .ok (.istore_n 1, 1) := by decide +kernel
theorem dX0_numberOfWishes_25 : decode cX0_numberOfWishes 25 = .ok (.iinc 2 1, 3) := by decide +kernel
theorem dX0_numberOfWishes_28 : decode cX0_numberOfWishes 28 = .ok (.goto (-24), 3) := by decide +kernel
theorem dX0_numberOfWishes_31 : decode cX0_numberOfWishes 31 = .ok (.iload_n 1, 1) := by decide +kernel
theorem dX0_numberOfWishes_32 : decode cX0_numberOfWishes 32 = .ok (.ireturn, 1) := by decide +kernel
theorem dX0_roundsSoFar_0 : decode cX0_roundsSoFar 0 = .ok (.aload_n 0, 1) := by decide +kernel
theorem dX0_roundsSoFar_1 : decode cX0_roundsSoFar 1 = .ok (.getfield 11, 3) := by decide +kernel
theorem dX0_roundsSoFar_4 : decode cX0_roundsSoFar 4 = .ok (.sipush 153, 3) := by decide +kernel
theorem dX0_roundsSoFar_7 : decode cX0_roundsSoFar 7 = .ok (.iaload, 1) := by decide +kernel
theorem dX0_roundsSoFar_8 : decode cX0_roundsSoFar 8 = .ok (.ireturn, 1) := by decide +kernel
set_option maxRecDepth 20000 in
theorem ggX0_shakeHands_X0_closeWish : GoodIn wsX0_shakeHands wsX0_closeWish := goodIn_r _ [6, 1, 7] (by decide +kernel) (by decide +kernel)
set_option maxRecDepth 20000 in
theorem gX0_shakeHands_X0_closeWish : GoodIn wsX0_shakeHands (wsV RX0 66 RX0 yX0_closeWish wsX0_closeWish) := goodIn_app (goodIn_of _ (by decide +kernel)) ggX0_shakeHands_X0_closeWish
theorem dX0_shakeHands_0 : decode cX0_shakeHands 0 = .ok (.aload_n 0, 1) := by decide +kernel
theorem dX0_shakeHands_1 : decode cX0_shakeHands 1 = .ok (.getfield 11, 3) := by decide +kernel
theorem dX0_shakeHands_4 : decode cX0_shakeHands 4 = .ok (.bipush 88, 2) := by decide +kernel
theorem dX0_shakeHands_6 : decode cX0_shakeHands 6 = .ok (.bipush 8, 2) := by decide +kernel
theorem dX0_shakeHands_8 : decode cX0_shakeHands 8 = .ok (.iload_n 1, 1) := by decide +kernel
theorem dX0_shakeHands_9 : decode cX0_shakeHands 9 = .ok (.imul, 1) := by decide +kernel
theorem dX0_shakeHands_10 : decode cX0_shakeHands 10 = .ok (.iadd, 1) := by decide +kernel
theorem dX0_shakeHands_11 : decode cX0_shakeHands 11 = .ok (.iload_n 2, 1) := by decide +kernel
theorem dX0_shakeHands_12 : decode cX0_shakeHands 12 = .ok (.iadd, 1) := by decide +kernel
theorem dX0_shakeHands_13 : decode cX0_shakeHands 13 = .ok (.dup2, 1) := by decide +kernel
theorem dX0_shakeHands_14 : decode cX0_shakeHands 14 = .ok (.iaload, 1) := by decide +kernel
theorem dX0_shakeHands_15 : decode cX0_shakeHands 15 = .ok (.iconst 1, 1) := by decide +kernel
theorem dX0_shakeHands_16 : decode cX0_shakeHands 16 = .ok (.iadd, 1) := by decide +kernel
theorem dX0_shakeHands_17 : decode cX0_shakeHands 17 = .ok (.iastore, 1) := by decide +kernel
theorem dX0_shakeHands_18 : decode cX0_shakeHands 18 = .ok (.aload_n 0, 1) := by decide +kernel
theorem dX0_shakeHands_19 : decode cX0_shakeHands 19 = .ok (.iload_n 1, 1) := by decide +kernel
theorem dX0_shakeHands_20 : decode cX0_shakeHands 20 = .ok (.iload_n 2, 1) := by decide +kernel
theorem dX0_shakeHands_21 : decode cX0_shakeHands 21 = .ok (.invokevirtual 66, 3) := by decide +kernel
theorem dX0_shakeHands_24 : decode cX0_shakeHands 24 = .ok (.return_, 1) := by decide +kernel
theorem dX0_endRound_0 : decode cX0_endRound 0 = .ok (.bipush 24, 2) := by decide +kernel
theorem dX0_endRound_2 : decode cX0_endRound 2 = .ok (.istore_n 1, 1) := by decide +kernel
theorem dX0_endRound_3 : decode cX0_endRound 3 = .ok (.iload_n 1, 1) := by decide +kernel
theorem dX0_endRound_4 : decode cX0_endRound 4 = .ok (.bipush 88, 2) := by decide +kernel
theorem dX0_endRound_6 : decode cX0_endRound 6 = .ok (.if_icmp .ge 28, 3) := by decide +kernel
theorem dX0_endRound_9 : decode cX0_endRound 9 = .ok (.aload_n 0, 1) := by decide +kernel
theorem dX0_endRound_10 : decode cX0_endRound 10 = .ok (.getfield 11, 3) := by decide +kernel
theorem dX0_endRound_13 : decode cX0_endRound 13 = .ok (.iload_n 1, 1) := by decide +kernel
theorem dX0_endRound_14 : decode cX0_endRound 14 = .ok (.iaload, 1) := by decide +kernel
theorem dX0_endRound_15 : decode cX0_endRound 15 = .ok (.ifCond .le 13, 3) := by decide +kernel
theorem dX0_endRound_18 : decode cX0_endRound 18 = .ok (.aload_n 0, 1) := by decide +kernel
theorem dX0_endRound_19 : decode cX0_endRound 19 = .ok (.getfield 11, 3) := by decide +kernel
theorem dX0_endRound_22 : decode cX0_endRound 22 = .ok (.iload_n 1, 1) := by decide +kernel
theorem dX0_endRound_23 : decode cX0_endRound 23 = .ok (.dup2, 1) := by decide +kernel
theorem dX0_endRound_24 : decode cX0_endRound 24 = .ok (.iaload, 1) := by decide +kernel
theorem dX0_endRound_25 : decode cX0_endRound 25 = .ok (.iconst 1, 1) := by decide +kernel
theorem dX0_endRound_26 : decode cX0_endRound 26 = .ok (.isub, 1) := by decide +kernel
theorem dX0_endRound_27 : decode cX0_endRound 27 = .ok (.iastore, 1) := by decide +kernel
theorem dX0_endRound_28 : decode cX0_endRound 28 = .ok (.iinc 1 1, 3) := by decide +kernel
theorem dX0_endRound_31 : decode cX0_endRound 31 = .ok (.goto (-28), 3) := by decide +kernel
theorem dX0_endRound_34 : decode cX0_endRound 34 = .ok (.aload_n 0, 1) := by decide +kernel
theorem dX0_endRound_35 : decode cX0_endRound 35 = .ok (.getfield 11, 3) := by decide +kernel
theorem dX0_endRound_38 : decode cX0_endRound 38 = .ok (.sipush 153, 3) := by decide +kernel
theorem dX0_endRound_41 : decode cX0_endRound 41 = .ok (.dup2, 1) := by decide +kernel
theorem dX0_endRound_42 : decode cX0_endRound 42 = .ok (.iaload, 1) := by decide +kernel
theorem dX0_endRound_43 : decode cX0_endRound 43 = .ok (.iconst 1, 1) := by decide +kernel
theorem dX0_endRound_44 : decode cX0_endRound 44 = .ok (.iadd, 1) := by decide +kernel
theorem dX0_endRound_45 : decode cX0_endRound 45 = .ok (.iastore, 1) := by decide +kernel
theorem dX0_endRound_46 : decode cX0_endRound 46 = .ok (.return_, 1) := by decide +kernel
theorem dX1_init_0 : decode cX1_init 0 = .ok (.aload_n 0, 1) := by decide +kernel
theorem dX1_init_1 : decode cX1_init 1 = .ok (.invokespecial 3, 3) := by decide +kernel
theorem dX1_init_4 : decode cX1_init 4 = .ok (.aload_n 0, 1) := by decide +kernel
theorem dX1_init_5 : decode cX1_init 5 = .ok (.sipush 770, 3) := by decide +kernel
theorem dX1_init_8 : decode cX1_init 8 = .ok (.newarray .int, 2) := by decide +kernel
theorem dX1_init_10 : decode cX1_init 10 = .ok (.putfield 11, 3) := by decide +kernel
theorem dX1_init_13 : decode cX1_init 13 = .ok (.return_, 1) := by decide +kernel
theorem dX1_size_0 : decode cX1_size 0 = .ok (.aload_n 0, 1) := by decide +kernel
theorem dX1_size_1 : decode cX1_size 1 = .ok (.getfield 17, 3) := by decide +kernel
theorem dX1_size_4 : decode cX1_size 4 = .ok (.ireturn, 1) := by decide +kernel
set_option maxRecDepth 20000 in
theorem ggX1_keep_X1_startOfRow : GoodIn wsX1_keep wsX1_startOfRow := goodIn_r _ [12, 2, 13, 14, 15] (by decide +kernel) (by decide +kernel)
set_option maxRecDepth 20000 in
theorem gX1_keep_X1_startOfRow : GoodIn wsX1_keep (wsV RX1 27 RX1 yX1_startOfRow wsX1_startOfRow) := goodIn_app (goodIn_of _ (by decide +kernel)) ggX1_keep_X1_startOfRow
theorem dX1_keep_0 : decode cX1_keep 0 = .ok (.aload_n 0, 1) := by decide +kernel
theorem dX1_keep_1 : decode cX1_keep 1 = .ok (.getfield 17, 3) := by decide +kernel
theorem dX1_keep_4 : decode cX1_keep 4 = .ok (.iconst 5, 1) := by decide +kernel
theorem dX1_keep_5 : decode cX1_keep 5 = .ok (.if_icmp .ne 25, 3) := by decide +kernel
theorem dX1_keep_8 : decode cX1_keep 8 = .ok (.aload_n 0, 1) := by decide +kernel
theorem dX1_keep_9 : decode cX1_keep 9 = .ok (.aload_n 0, 1) := by decide +kernel
theorem dX1_keep_10 : decode cX1_keep 10 = .ok (.getfield 21, 3) := by decide +kernel
theorem dX1_keep_13 : decode cX1_keep 13 = .ok (.iconst 1, 1) := by decide +kernel
theorem dX1_keep_14 : decode cX1_keep 14 = .ok (.iadd, 1) := by decide +kernel
theorem dX1_keep_15 : decode cX1_keep 15 = .ok (.iconst 5, 1) := by decide +kernel
theorem dX1_keep_16 : decode cX1_keep 16 = .ok (.irem, 1) := by decide +kernel
theorem dX1_keep_17 : decode cX1_keep 17 = .ok (.putfield 21, 3) := by decide +kernel
theorem dX1_keep_20 : decode cX1_keep 20 = .ok (.aload_n 0, 1) := by decide +kernel
theorem dX1_keep_21 : decode cX1_keep 21 = .ok (.dup, 1) := by decide +kernel
theorem dX1_keep_22 : decode cX1_keep 22 = .ok (.getfield 17, 3) := by decide +kernel
theorem dX1_keep_25 : decode cX1_keep 25 = .ok (.iconst 1, 1) := by decide +kernel
theorem dX1_keep_26 : decode cX1_keep 26 = .ok (.isub, 1) := by decide +kernel
theorem dX1_keep_27 : decode cX1_keep 27 = .ok (.putfield 17, 3) := by decide +kernel
theorem dX1_keep_30 : decode cX1_keep 30 = .ok (.aload_n 1, 1) := by decide +kernel
theorem dX1_keep_31 : decode cX1_keep 31 = .ok (.getfield 24, 3) := by decide +kernel
theorem dX1_keep_34 : decode cX1_keep 34 = .ok (.iconst 0, 1) := by decide +kernel
theorem dX1_keep_35 : decode cX1_keep 35 = .ok (.aload_n 0, 1) := by decide +kernel
theorem dX1_keep_36 : decode cX1_keep 36 = .ok (.getfield 11, 3) := by decide +kernel
theorem dX1_keep_39 : decode cX1_keep 39 = .ok (.aload_n 0, 1) := by decide +kernel
theorem dX1_keep_40 : decode cX1_keep 40 = .ok (.aload_n 0, 1) := by decide +kernel
theorem dX1_keep_41 : decode cX1_keep 41 = .ok (.getfield 17, 3) := by decide +kernel
theorem dX1_keep_44 : decode cX1_keep 44 = .ok (.invokevirtual 27, 3) := by decide +kernel
theorem dX1_keep_47 : decode cX1_keep 47 = .ok (.sipush 154, 3) := by decide +kernel
theorem dX1_keep_50 : decode cX1_keep 50 = .ok (.invokestatic 31, 3) := by decide +kernel
theorem dX1_keep_53 : decode cX1_keep 53 = .ok (.aload_n 0, 1) := by decide +kernel
theorem dX1_keep_54 : decode cX1_keep 54 = .ok (.dup, 1) := by decide +kernel
theorem dX1_keep_55 : decode cX1_keep 55 = .ok (.getfield 17, 3) := by decide +kernel
theorem dX1_keep_58 : decode cX1_keep 58 = .ok (.iconst 1, 1) := by decide +kernel
theorem dX1_keep_59 : decode cX1_keep 59 = .ok (.iadd, 1) := by decide +kernel
theorem dX1_keep_60 : decode cX1_keep 60 = .ok (.putfield 17, 3) := by decide +kernel
theorem dX1_keep_63 : decode cX1_keep 63 = .ok (.return_, 1) := by decide +kernel
set_option maxRecDepth 20000 in
theorem ggX1_takeLatest_X1_startOfRow : GoodIn wsX1_takeLatest wsX1_startOfRow := goodIn_r _ [11, 12, 13, 14, 15] (by decide +kernel) (by decide +kernel)
set_option maxRecDepth 20000 in
theorem gX1_takeLatest_X1_startOfRow : GoodIn wsX1_takeLatest (wsV RX1 27 RX1 yX1_startOfRow wsX1_startOfRow) := goodIn_app (goodIn_of _ (by decide +kernel)) ggX1_takeLatest_X1_startOfRow
theorem dX1_takeLatest_0 : decode cX1_takeLatest 0 = .ok (.aload_n 0, 1) := by decide +kernel
theorem dX1_takeLatest_1 : decode cX1_takeLatest 1 = .ok (.getfield 17, 3) := by decide +kernel
theorem dX1_takeLatest_4 : decode cX1_takeLatest 4 = .ok (.ifCond .ne 4, 3) := by decide +kernel
theorem dX1_takeLatest_7 : decode cX1_takeLatest 7 = .ok (.return_, 1) := by decide +kernel
theorem dX1_takeLatest_8 : decode cX1_takeLatest 8 = .ok (.aload_n 0, 1) := by decide +kernel
theorem dX1_takeLatest_9 : decode cX1_takeLatest 9 = .ok (.dup, 1) := by decide +kernel
theorem dX1_takeLatest_10 : decode cX1_takeLatest 10 = .ok (.getfield 17, 3) := by decide +kernel
theorem dX1_takeLatest_13 : decode cX1_takeLatest 13 = .ok (.iconst 1, 1) := by decide +kernel
theorem dX1_takeLatest_14 : decode cX1_takeLatest 14 = .ok (.isub, 1) := by decide +kernel
theorem dX1_takeLatest_15 : decode cX1_takeLatest 15 = .ok (.putfield 17, 3) := by decide +kernel
theorem dX1_takeLatest_18 : decode cX1_takeLatest 18 = .ok (.aload_n 0, 1) := by decide +kernel
theorem dX1_takeLatest_19 : decode cX1_takeLatest 19 = .ok (.getfield 11, 3) := by decide +kernel
theorem dX1_takeLatest_22 : decode cX1_takeLatest 22 = .ok (.aload_n 0, 1) := by decide +kernel
theorem dX1_takeLatest_23 : decode cX1_takeLatest 23 = .ok (.aload_n 0, 1) := by decide +kernel
theorem dX1_takeLatest_24 : decode cX1_takeLatest 24 = .ok (.getfield 17, 3) := by decide +kernel
theorem dX1_takeLatest_27 : decode cX1_takeLatest 27 = .ok (.invokevirtual 27, 3) := by decide +kernel
theorem dX1_takeLatest_30 : decode cX1_takeLatest 30 = .ok (.aload_n 1, 1) := by decide +kernel
theorem dX1_takeLatest_31 : decode cX1_takeLatest 31 = .ok (.getfield 24, 3) := by decide +kernel
theorem dX1_takeLatest_34 : decode cX1_takeLatest 34 = .ok (.iconst 0, 1) := by decide +kernel
theorem dX1_takeLatest_35 : decode cX1_takeLatest 35 = .ok (.sipush 154, 3) := by decide +kernel
theorem dX1_takeLatest_38 : decode cX1_takeLatest 38 = .ok (.invokestatic 31, 3) := by decide +kernel
theorem dX1_takeLatest_41 : decode cX1_takeLatest 41 = .ok (.return_, 1) := by decide +kernel
theorem dX1_startOfRow_0 : decode cX1_startOfRow 0 = .ok (.aload_n 0, 1) := by decide +kernel
theorem dX1_startOfRow_1 : decode cX1_startOfRow 1 = .ok (.getfield 21, 3) := by decide +kernel
theorem dX1_startOfRow_4 : decode cX1_startOfRow 4 = .ok (.iload_n 1, 1) := by decide +kernel
theorem dX1_startOfRow_5 : decode cX1_startOfRow 5 = .ok (.iadd, 1) := by decide +kernel
theorem dX1_startOfRow_6 : decode cX1_startOfRow 6 = .ok (.iconst 5, 1) := by decide +kernel
theorem dX1_startOfRow_7 : decode cX1_startOfRow 7 = .ok (.irem, 1) := by decide +kernel
theorem dX1_startOfRow_8 : decode cX1_startOfRow 8 = .ok (.sipush 154, 3) := by decide +kernel
theorem dX1_startOfRow_11 : decode cX1_startOfRow 11 = .ok (.imul, 1) := by decide +kernel
theorem dX1_startOfRow_12 : decode cX1_startOfRow 12 = .ok (.ireturn, 1) := by decide +kernel
theorem dX2_init_0 : decode cX2_init 0 = .ok (.aload_n 0, 1) := by decide +kernel
theorem dX2_init_1 : decode cX2_init 1 = .ok (.invokespecial 3, 3) := by decide +kernel
theorem dX2_init_4 : decode cX2_init 4 = .ok (.aload_n 0, 1) := by decide +kernel
theorem dX2_init_5 : decode cX2_init 5 = .ok (.bipush 8, 2) := by decide +kernel
theorem dX2_init_7 : decode cX2_init 7 = .ok (.newarray .int, 2) := by decide +kernel
theorem dX2_init_9 : decode cX2_init 9 = .ok (.putfield 9, 3) := by decide +kernel
theorem dX2_init_12 : decode cX2_init 12 = .ok (.aload_n 0, 1) := by decide +kernel
theorem dX2_init_13 : decode cX2_init 13 = .ok (.bipush 8, 2) := by decide +kernel
theorem dX2_init_15 : decode cX2_init 15 = .ok (.newarray .int, 2) := by decide +kernel
theorem dX2_init_17 : decode cX2_init 17 = .ok (.putfield 15, 3) := by decide +kernel
theorem dX2_init_20 : decode cX2_init 20 = .ok (.aload_n 0, 1) := by decide +kernel
theorem dX2_init_21 : decode cX2_init 21 = .ok (.bipush 8, 2) := by decide +kernel
theorem dX2_init_23 : decode cX2_init 23 = .ok (.newarray .int, 2) := by decide +kernel
theorem dX2_init_25 : decode cX2_init 25 = .ok (.putfield 18, 3) := by decide +kernel
theorem dX2_init_28 : decode cX2_init 28 = .ok (.aload_n 0, 1) := by decide +kernel
theorem dX2_init_29 : decode cX2_init 29 = .ok (.bipush 8, 2) := by decide +kernel
theorem dX2_init_31 : decode cX2_init 31 = .ok (.newarray .int, 2) := by decide +kernel
theorem dX2_init_33 : decode cX2_init 33 = .ok (.putfield 21, 3) := by decide +kernel
theorem dX2_init_36 : decode cX2_init 36 = .ok (.return_, 1) := by decide +kernel
theorem dX2_partnerOf_0 : decode cX2_partnerOf 0 = .ok (.iload_n 1, 1) := by decide +kernel
theorem dX2_partnerOf_1 : decode cX2_partnerOf 1 = .ok (.ifCond .eq 12, 3) := by decide +kernel
theorem dX2_partnerOf_4 : decode cX2_partnerOf 4 = .ok (.aload_n 0, 1) := by decide +kernel
theorem dX2_partnerOf_5 : decode cX2_partnerOf 5 = .ok (.getfield 15, 3) := by decide +kernel
theorem dX2_partnerOf_8 : decode cX2_partnerOf 8 = .ok (.iload_n 2, 1) := by decide +kernel
theorem dX2_partnerOf_9 : decode cX2_partnerOf 9 = .ok (.iaload, 1) := by decide +kernel
theorem dX2_partnerOf_10 : decode cX2_partnerOf 10 = .ok (.goto 9, 3) := by decide +kernel
theorem dX2_partnerOf_13 : decode cX2_partnerOf 13 = .ok (.aload_n 0, 1) := by decide +kernel
theorem dX2_partnerOf_14 : decode cX2_partnerOf 14 = .ok (.getfield 18, 3) := by decide +kernel
theorem dX2_partnerOf_17 : decode cX2_partnerOf 17 = .ok (.iload_n 2, 1) := by decide +kernel
theorem dX2_partnerOf_18 : decode cX2_partnerOf 18 = .ok (.iaload, 1) := by decide +kernel
theorem dX2_partnerOf_19 : decode cX2_partnerOf 19 = .ok (.ireturn, 1) := by decide +kernel
set_option maxRecDepth 20000 in
theorem ggX2_size_X5_asNumber : GoodIn wsX2_size wsX5_asNumber := goodIn_r _ [4] (by decide +kernel) (by decide +kernel)
set_option maxRecDepth 20000 in
theorem gX2_size_X5_asNumber_n24 : GoodIn wsX2_size (wsX5_asNumber) := ggX2_size_X5_asNumber
theorem dX2_size_0 : decode cX2_size 0 = .ok (.iconst 0, 1) := by decide +kernel
theorem dX2_size_1 : decode cX2_size 1 = .ok (.istore_n 1, 1) := by decide +kernel
theorem dX2_size_2 : decode cX2_size 2 = .ok (.iconst 0, 1) := by decide +kernel
theorem dX2_size_3 : decode cX2_size 3 = .ok (.istore_n 2, 1) := by decide +kernel
theorem dX2_size_4 : decode cX2_size 4 = .ok (.iload_n 2, 1) := by decide +kernel
theorem dX2_size_5 : decode cX2_size 5 = .ok (.bipush 8, 2) := by decide +kernel
theorem dX2_size_7 : decode cX2_size 7 = .ok (.if_icmp .ge 31, 3) := by decide +kernel
theorem dX2_size_10 : decode cX2_size 10 = .ok (.iload_n 1, 1) := by decide +kernel
theorem dX2_size_11 : decode cX2_size 11 = .ok (.aload_n 0, 1) := by decide +kernel
theorem dX2_size_12 : decode cX2_size 12 = .ok (.getfield 15, 3) := by decide +kernel
theorem dX2_size_15 : decode cX2_size 15 = .ok (.iload_n 2, 1) := by decide +kernel
theorem dX2_size_16 : decode cX2_size 16 = .ok (.iaload, 1) := by decide +kernel
theorem dX2_size_17 : decode cX2_size 17 = .ok (.bipush (-5), 2) := by decide +kernel
theorem dX2_size_19 : decode cX2_size 19 = .ok (.if_icmp .eq 7, 3) := by decide +kernel
theorem dX2_size_22 : decode cX2_size 22 = .ok (.iconst 1, 1) := by decide +kernel
theorem dX2_size_23 : decode cX2_size 23 = .ok (.goto 4, 3) := by decide +kernel
theorem dX2_size_26 : decode cX2_size 26 = .ok (.iconst 0, 1) := by decide +kernel
theorem dX2_size_27 : decode cX2_size 27 = .ok (.invokestatic 24, 3) := by decide +kernel
theorem dX2_size_30 : decode cX2_size 30 = .ok (.iadd, 1) := by decide +kernel
theorem dX2_size_31 : decode cX2_size 31 = .ok (.istore_n 1, 1) := by decide +kernel
theorem dX2_size_32 : decode cX2_size 32 = .ok (.iinc 2 1, 3) := by decide +kernel
theorem dX2_size_35 : decode cX2_size 35 = .ok (.goto (-31), 3) := by decide +kernel
theorem dX2_size_38 : decode cX2_size 38 = .ok (.iload_n 1, 1) := by decide +kernel
theorem dX2_size_39 : decode cX2_size 39 = .ok (.ireturn, 1) := by decide +kernel
set_option maxRecDepth 20000 in
theorem ggX2_takeGreatest_J7_fill_53178 : GoodIn wsX2_takeGreatest wsJ7_fill_53178 := goodIn_r _ [7] (by decide +kernel) (by decide +kernel)
set_option maxRecDepth 20000 in
theorem gX2_takeGreatest_J7_fill_53178 : GoodIn wsX2_takeGreatest (va_wsS RX2 28 yJ7_fill_53178 wsJ7_fill_53178) := goodIn_app (goodIn_of _ (by decide +kernel)) ggX2_takeGreatest_J7_fill_53178
set_option maxRecDepth 20000 in
theorem ggX2_takeGreatest_X0_isPossible : GoodIn wsX2_takeGreatest wsX0_isPossible := goodIn_r _ [12, 13, 14, 15, 11, 16, 17, 18, 19, 20, 21, 22, 23, 24, 25, 26, 27, 28, 29, 30, 31, 32, 59] (by decide +kernel) (by decide +kernel)
set_option maxRecDepth 20000 in
theorem gX2_takeGreatest_X0_isPossible : GoodIn wsX2_takeGreatest (wsV RX2 34 RX0 yX0_isPossible wsX0_isPossible) := goodIn_app (goodIn_of _ (by decide +kernel)) ggX2_takeGreatest_X0_isPossible
set_option maxRecDepth 20000 in
theorem ggX2_takeGreatest_X2_growsByOne : GoodIn wsX2_takeGreatest wsX2_growsByOne := goodIn_r _ [37, 38, 2, 39, 40, 41, 36, 42, 43, 1, 3, 44, 45, 46, 47, 18, 19, 20, 48, 49, 50, 51, 52, 53, 54, 55, 56, 57, 58] (by decide +kernel) (by decide +kernel)
set_option maxRecDepth 20000 in
theorem gX2_takeGreatest_X2_growsByOne : GoodIn wsX2_takeGreatest (wsV RX2 40 RX2 yX2_growsByOne wsX2_growsByOne) := goodIn_app (goodIn_of _ (by decide +kernel)) ggX2_takeGreatest_X2_growsByOne
theorem dX2_takeGreatest_0 : decode cX2_takeGreatest 0 = .ok (.aload_n 0, 1) := by decide +kernel
theorem dX2_takeGreatest_1 : decode cX2_takeGreatest 1 = .ok (.getfield 9, 3) := by decide +kernel
theorem dX2_takeGreatest_4 : decode cX2_takeGreatest 4 = .ok (.iconst 0, 1) := by decide +kernel
theorem dX2_takeGreatest_5 : decode cX2_takeGreatest 5 = .ok (.invokestatic 28, 3) := by decide +kernel
theorem dX2_takeGreatest_8 : decode cX2_takeGreatest 8 = .ok (.aload_n 0, 1) := by decide +kernel
theorem dX2_takeGreatest_9 : decode cX2_takeGreatest 9 = .ok (.getfield 15, 3) := by decide +kernel
theorem dX2_takeGreatest_12 : decode cX2_takeGreatest 12 = .ok (.bipush (-5), 2) := by decide +kernel
theorem dX2_takeGreatest_14 : decode cX2_takeGreatest 14 = .ok (.invokestatic 28, 3) := by decide +kernel
theorem dX2_takeGreatest_17 : decode cX2_takeGreatest 17 = .ok (.aload_n 0, 1) := by decide +kernel
theorem dX2_takeGreatest_18 : decode cX2_takeGreatest 18 = .ok (.getfield 18, 3) := by decide +kernel
theorem dX2_takeGreatest_21 : decode cX2_takeGreatest 21 = .ok (.bipush (-5), 2) := by decide +kernel
theorem dX2_takeGreatest_23 : decode cX2_takeGreatest 23 = .ok (.invokestatic 28, 3) := by decide +kernel
