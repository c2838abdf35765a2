theorem dX6_takeBack_19 : decode cX6_takeBack 19 = .ok (.iaload, 1) := by decide +kernel
theorem dX6_takeBack_20 : decode cX6_takeBack 20 = .ok (.iastore, 1) := by decide +kernel
theorem dX6_takeBack_21 : decode cX6_takeBack 21 = .ok (.iinc 1 1, 3) := by decide +kernel
theorem dX6_takeBack_24 : decode cX6_takeBack 24 = .ok (.goto (-22), 3) := by decide +kernel
theorem dX6_takeBack_27 : decode cX6_takeBack 27 = .ok (.return_, 1) := by decide +kernel
theorem dX6_areLinked_0 : decode cX6_areLinked 0 = .ok (.aload_n 0, 1) := by decide +kernel
theorem dX6_areLinked_1 : decode cX6_areLinked 1 = .ok (.getfield 7, 3) := by decide +kernel
theorem dX6_areLinked_4 : decode cX6_areLinked 4 = .ok (.bipush 17, 2) := by decide +kernel
theorem dX6_areLinked_6 : decode cX6_areLinked 6 = .ok (.iconst 4, 1) := by decide +kernel
theorem dX6_areLinked_7 : decode cX6_areLinked 7 = .ok (.aload_n 0, 1) := by decide +kernel
theorem dX6_areLinked_8 : decode cX6_areLinked 8 = .ok (.getfield 7, 3) := by decide +kernel
theorem dX6_areLinked_11 : decode cX6_areLinked 11 = .ok (.iconst 1, 1) := by decide +kernel
theorem dX6_areLinked_12 : decode cX6_areLinked 12 = .ok (.iload_n 1, 1) := by decide +kernel
theorem dX6_areLinked_13 : decode cX6_areLinked 13 = .ok (.iadd, 1) := by decide +kernel
theorem dX6_areLinked_14 : decode cX6_areLinked 14 = .ok (.iaload, 1) := by decide +kernel
theorem dX6_areLinked_15 : decode cX6_areLinked 15 = .ok (.imul, 1) := by decide +kernel
theorem dX6_areLinked_16 : decode cX6_areLinked 16 = .ok (.iadd, 1) := by decide +kernel
theorem dX6_areLinked_17 : decode cX6_areLinked 17 = .ok (.aload_n 0, 1) := by decide +kernel
theorem dX6_areLinked_18 : decode cX6_areLinked 18 = .ok (.getfield 7, 3) := by decide +kernel
theorem dX6_areLinked_21 : decode cX6_areLinked 21 = .ok (.bipush 9, 2) := by decide +kernel
theorem dX6_areLinked_23 : decode cX6_areLinked 23 = .ok (.iload_n 2, 1) := by decide +kernel
theorem dX6_areLinked_24 : decode cX6_areLinked 24 = .ok (.iadd, 1) := by decide +kernel
theorem dX6_areLinked_25 : decode cX6_areLinked 25 = .ok (.iaload, 1) := by decide +kernel
theorem dX6_areLinked_26 : decode cX6_areLinked 26 = .ok (.iadd, 1) := by decide +kernel
theorem dX6_areLinked_27 : decode cX6_areLinked 27 = .ok (.iaload, 1) := by decide +kernel
theorem dX6_areLinked_28 : decode cX6_areLinked 28 = .ok (.iconst 1, 1) := by decide +kernel
theorem dX6_areLinked_29 : decode cX6_areLinked 29 = .ok (.if_icmp .ne 7, 3) := by decide +kernel
theorem dX6_areLinked_32 : decode cX6_areLinked 32 = .ok (.iconst 1, 1) := by decide +kernel
theorem dX6_areLinked_33 : decode cX6_areLinked 33 = .ok (.goto 4, 3) := by decide +kernel
theorem dX6_areLinked_36 : decode cX6_areLinked 36 = .ok (.iconst 0, 1) := by decide +kernel
theorem dX6_areLinked_37 : decode cX6_areLinked 37 = .ok (.ireturn, 1) := by decide +kernel
set_option maxRecDepth 20000 in
theorem ggX6_canMeet_X6_areLinked : GoodIn wsX6_canMeet wsX6_areLinked := goodIn_r _ [6, 1, 7, 8, 9, 10, 11, 12, 13, 14, 15, 16, 17, 18, 19, 20, 21, 22, 23, 24] (by decide +kernel) (by decide +kernel)
set_option maxRecDepth 20000 in
theorem gX6_canMeet_X6_areLinked : GoodIn wsX6_canMeet (wsV RX6 58 RX6 yX6_areLinked wsX6_areLinked) := goodIn_app (goodIn_of _ (by decide +kernel)) ggX6_canMeet_X6_areLinked
theorem dX6_canMeet_0 : decode cX6_canMeet 0 = .ok (.aload_n 0, 1) := by decide +kernel
theorem dX6_canMeet_1 : decode cX6_canMeet 1 = .ok (.iload_n 1, 1) := by decide +kernel
theorem dX6_canMeet_2 : decode cX6_canMeet 2 = .ok (.iload_n 2, 1) := by decide +kernel
theorem dX6_canMeet_3 : decode cX6_canMeet 3 = .ok (.invokevirtual 58, 3) := by decide +kernel
theorem dX6_canMeet_6 : decode cX6_canMeet 6 = .ok (.ifCond .eq 24, 3) := by decide +kernel
theorem dX6_canMeet_9 : decode cX6_canMeet 9 = .ok (.aload_n 0, 1) := by decide +kernel
theorem dX6_canMeet_10 : decode cX6_canMeet 10 = .ok (.getfield 7, 3) := by decide +kernel
theorem dX6_canMeet_13 : decode cX6_canMeet 13 = .ok (.bipush 33, 2) := by decide +kernel
theorem dX6_canMeet_15 : decode cX6_canMeet 15 = .ok (.bipush 8, 2) := by decide +kernel
theorem dX6_canMeet_17 : decode cX6_canMeet 17 = .ok (.iload_n 1, 1) := by decide +kernel
theorem dX6_canMeet_18 : decode cX6_canMeet 18 = .ok (.imul, 1) := by decide +kernel
theorem dX6_canMeet_19 : decode cX6_canMeet 19 = .ok (.iadd, 1) := by decide +kernel
theorem dX6_canMeet_20 : decode cX6_canMeet 20 = .ok (.iload_n 2, 1) := by decide +kernel
theorem dX6_canMeet_21 : decode cX6_canMeet 21 = .ok (.iadd, 1) := by decide +kernel
theorem dX6_canMeet_22 : decode cX6_canMeet 22 = .ok (.iaload, 1) := by decide +kernel
theorem dX6_canMeet_23 : decode cX6_canMeet 23 = .ok (.ifCond .ne 7, 3) := by decide +kernel
theorem dX6_canMeet_26 : decode cX6_canMeet 26 = .ok (.iconst 1, 1) := by decide +kernel
theorem dX6_canMeet_27 : decode cX6_canMeet 27 = .ok (.goto 4, 3) := by decide +kernel
theorem dX6_canMeet_30 : decode cX6_canMeet 30 = .ok (.iconst 0, 1) := by decide +kernel
theorem dX6_canMeet_31 : decode cX6_canMeet 31 = .ok (.ireturn, 1) := by decide +kernel
theorem dX6_isOpen_0 : decode cX6_isOpen 0 = .ok (.aload_n 0, 1) := by decide +kernel
theorem dX6_isOpen_1 : decode cX6_isOpen 1 = .ok (.getfield 7, 3) := by decide +kernel
theorem dX6_isOpen_4 : decode cX6_isOpen 4 = .ok (.bipush 97, 2) := by decide +kernel
theorem dX6_isOpen_6 : decode cX6_isOpen 6 = .ok (.bipush 8, 2) := by decide +kernel
theorem dX6_isOpen_8 : decode cX6_isOpen 8 = .ok (.iload_n 1, 1) := by decide +kernel
theorem dX6_isOpen_9 : decode cX6_isOpen 9 = .ok (.imul, 1) := by decide +kernel
theorem dX6_isOpen_10 : decode cX6_isOpen 10 = .ok (.iadd, 1) := by decide +kernel
theorem dX6_isOpen_11 : decode cX6_isOpen 11 = .ok (.iload_n 2, 1) := by decide +kernel
theorem dX6_isOpen_12 : decode cX6_isOpen 12 = .ok (.iadd, 1) := by decide +kernel
theorem dX6_isOpen_13 : decode cX6_isOpen 13 = .ok (.iaload, 1) := by decide +kernel
theorem dX6_isOpen_14 : decode cX6_isOpen 14 = .ok (.iconst 1, 1) := by decide +kernel
theorem dX6_isOpen_15 : decode cX6_isOpen 15 = .ok (.if_icmp .ne 7, 3) := by decide +kernel
theorem dX6_isOpen_18 : decode cX6_isOpen 18 = .ok (.iconst 1, 1) := by decide +kernel
theorem dX6_isOpen_19 : decode cX6_isOpen 19 = .ok (.goto 4, 3) := by decide +kernel
theorem dX6_isOpen_22 : decode cX6_isOpen 22 = .ok (.iconst 0, 1) := by decide +kernel
theorem dX6_isOpen_23 : decode cX6_isOpen 23 = .ok (.ireturn, 1) := by decide +kernel
set_option maxRecDepth 20000 in
theorem ggX6_isPossible_X6_isOpen : GoodIn wsX6_isPossible wsX6_isOpen := goodIn_r _ [5, 6, 15, 16, 17, 18, 19, 20, 21, 22, 23, 24, 25, 26, 27, 28, 29, 30, 31, 32] (by decide +kernel) (by decide +kernel)
set_option maxRecDepth 20000 in
theorem gX6_isPossible_X6_isOpen : GoodIn wsX6_isPossible (wsV RX6 62 RX6 yX6_isOpen wsX6_isOpen) := goodIn_app (goodIn_of _ (by decide +kernel)) ggX6_isPossible_X6_isOpen
set_option maxRecDepth 20000 in
theorem ggX6_isPossible_X6_canMeet : GoodIn wsX6_isPossible wsX6_canMeet := goodIn_r _ [10, 6, 11, 12, 13, 4, 14, 15, 16, 17, 18, 19, 20, 21, 22, 23, 24, 25, 26, 27, 28, 29, 30, 31, 32] (by decide +kernel) (by decide +kernel)
set_option maxRecDepth 20000 in
theorem gX6_isPossible_X6_canMeet : GoodIn wsX6_isPossible (wsV RX6 65 RX6 yX6_canMeet wsX6_canMeet) := goodIn_app (goodIn_of _ (by decide +kernel)) ggX6_isPossible_X6_canMeet
theorem dX6_isPossible_0 : decode cX6_isPossible 0 = .ok (.aload_n 0, 1) := by decide +kernel
theorem dX6_isPossible_1 : decode cX6_isPossible 1 = .ok (.iload_n 1, 1) := by decide +kernel
theorem dX6_isPossible_2 : decode cX6_isPossible 2 = .ok (.iload_n 2, 1) := by decide +kernel
theorem dX6_isPossible_3 : decode cX6_isPossible 3 = .ok (.invokevirtual 62, 3) := by decide +kernel
theorem dX6_isPossible_6 : decode cX6_isPossible 6 = .ok (.ifCond .eq 16, 3) := by decide +kernel
theorem dX6_isPossible_9 : decode cX6_isPossible 9 = .ok (.aload_n 0, 1) := by decide +kernel
theorem dX6_isPossible_10 : decode cX6_isPossible 10 = .ok (.iload_n 1, 1) := by decide +kernel
theorem dX6_isPossible_11 : decode cX6_isPossible 11 = .ok (.iload_n 2, 1) := by decide +kernel
theorem dX6_isPossible_12 : decode cX6_isPossible 12 = .ok (.invokevirtual 65, 3) := by decide +kernel
theorem dX6_isPossible_15 : decode cX6_isPossible 15 = .ok (.ifCond .eq 7, 3) := by decide +kernel
theorem dX6_isPossible_18 : decode cX6_isPossible 18 = .ok (.iconst 1, 1) := by decide +kernel
theorem dX6_isPossible_19 : decode cX6_isPossible 19 = .ok (.goto 4, 3) := by decide +kernel
theorem dX6_isPossible_22 : decode cX6_isPossible 22 = .ok (.iconst 0, 1) := by decide +kernel
theorem dX6_isPossible_23 : decode cX6_isPossible 23 = .ok (.ireturn, 1) := by decide +kernel
set_option maxRecDepth 20000 in
theorem ggX6_findsCan_X6_isPossible : GoodIn wsX6_findsCan wsX6_isPossible := goodIn_r _ [6, 7, 8, 9, 5, 10, 11, 12, 13, 14, 15, 16, 17, 18, 19, 20, 21, 22, 23, 24, 25, 26, 27, 28, 29, 30, 31, 32, 33, 34, 35, 36, 37] (by decide +kernel) (by decide +kernel)
set_option maxRecDepth 20000 in
theorem gX6_findsCan_X6_isPossible : GoodIn wsX6_findsCan (wsV RX6 68 RX6 yX6_isPossible wsX6_isPossible) := goodIn_app (goodIn_of _ (by decide +kernel)) ggX6_findsCan_X6_isPossible
theorem dX6_findsCan_0 : decode cX6_findsCan 0 = .ok (.iconst 0, 1) := by decide +kernel
theorem dX6_findsCan_1 : decode cX6_findsCan 1 = .ok (.istore_n 2, 1) := by decide +kernel
theorem dX6_findsCan_2 : decode cX6_findsCan 2 = .ok (.iload_n 2, 1) := by decide +kernel
theorem dX6_findsCan_3 : decode cX6_findsCan 3 = .ok (.bipush 8, 2) := by decide +kernel
theorem dX6_findsCan_5 : decode cX6_findsCan 5 = .ok (.if_icmp .ge 60, 3) := by decide +kernel
theorem dX6_findsCan_8 : decode cX6_findsCan 8 = .ok (.aload_n 0, 1) := by decide +kernel
theorem dX6_findsCan_9 : decode cX6_findsCan 9 = .ok (.getfield 25, 3) := by decide +kernel
theorem dX6_findsCan_12 : decode cX6_findsCan 12 = .ok (.iload_n 2, 1) := by decide +kernel
theorem dX6_findsCan_13 : decode cX6_findsCan 13 = .ok (.iconst 0, 1) := by decide +kernel
theorem dX6_findsCan_14 : decode cX6_findsCan 14 = .ok (.iastore, 1) := by decide +kernel
theorem dX6_findsCan_15 : decode cX6_findsCan 15 = .ok (.iconst 0, 1) := by decide +kernel
theorem dX6_findsCan_16 : decode cX6_findsCan 16 = .ok (.istore_n 3, 1) := by decide +kernel
theorem dX6_findsCan_17 : decode cX6_findsCan 17 = .ok (.iload_n 3, 1) := by decide +kernel
theorem dX6_findsCan_18 : decode cX6_findsCan 18 = .ok (.bipush 8, 2) := by decide +kernel
theorem dX6_findsCan_20 : decode cX6_findsCan 20 = .ok (.if_icmp .ge 39, 3) := by decide +kernel
theorem dX6_findsCan_23 : decode cX6_findsCan 23 = .ok (.iload_n 2, 1) := by decide +kernel
theorem dX6_findsCan_24 : decode cX6_findsCan 24 = .ok (.iload_n 1, 1) := by decide +kernel
theorem dX6_findsCan_25 : decode cX6_findsCan 25 = .ok (.if_icmp .eq 34, 3) := by decide +kernel
theorem dX6_findsCan_28 : decode cX6_findsCan 28 = .ok (.aload_n 0, 1) := by decide +kernel
theorem dX6_findsCan_29 : decode cX6_findsCan 29 = .ok (.getfield 25, 3) := by decide +kernel
theorem dX6_findsCan_32 : decode cX6_findsCan 32 = .ok (.iload_n 2, 1) := by decide +kernel
theorem dX6_findsCan_33 : decode cX6_findsCan 33 = .ok (.dup2, 1) := by decide +kernel
theorem dX6_findsCan_34 : decode cX6_findsCan 34 = .ok (.iaload, 1) := by decide +kernel
theorem dX6_findsCan_35 : decode cX6_findsCan 35 = .ok (.aload_n 0, 1) := by decide +kernel
theorem dX6_findsCan_36 : decode cX6_findsCan 36 = .ok (.iload_n 2, 1) := by decide +kernel
theorem dX6_findsCan_37 : decode cX6_findsCan 37 = .ok (.iload_n 3, 1) := by decide +kernel
theorem dX6_findsCan_38 : decode cX6_findsCan 38 = .ok (.invokevirtual 68, 3) := by decide +kernel
theorem dX6_findsCan_41 : decode cX6_findsCan 41 = .ok (.ifCond .eq 9, 3) := by decide +kernel
theorem dX6_findsCan_44 : decode cX6_findsCan 44 = .ok (.iconst 1, 1) := by decide +kernel
theorem dX6_findsCan_45 : decode cX6_findsCan 45 = .ok (.iload_n 3, 1) := by decide +kernel
theorem dX6_findsCan_46 : decode cX6_findsCan 46 = .ok (.ishl, 1) := by decide +kernel
theorem dX6_findsCan_47 : decode cX6_findsCan 47 = .ok (.goto 4, 3) := by decide +kernel
theorem dX6_findsCan_50 : decode cX6_findsCan 50 = .ok (.iconst 0, 1) := by decide +kernel
theorem dX6_findsCan_51 : decode cX6_findsCan 51 = .ok (.ior, 1) := by decide +kernel
theorem dX6_findsCan_52 : decode cX6_findsCan 52 = .ok (.iastore, 1) := by decide +kernel
theorem dX6_findsCan_53 : decode cX6_findsCan 53 = .ok (.iinc 3 1, 3) := by decide +kernel
theorem dX6_findsCan_56 : decode cX6_findsCan 56 = .ok (.goto (-39), 3) := by decide +kernel
theorem dX6_findsCan_59 : decode cX6_findsCan 59 = .ok (.iinc 2 1, 3) := by decide +kernel
theorem dX6_findsCan_62 : decode cX6_findsCan 62 = .ok (.goto (-60), 3) := by decide +kernel
theorem dX6_findsCan_65 : decode cX6_findsCan 65 = .ok (.return_, 1) := by decide +kernel
theorem dX6_sizeOf_0 : decode cX6_sizeOf 0 = .ok (.aload_n 0, 1) := by decide +kernel
theorem dX6_sizeOf_1 : decode cX6_sizeOf 1 = .ok (.getfield 28, 3) := by decide +kernel
theorem dX6_sizeOf_4 : decode cX6_sizeOf 4 = .ok (.sipush 256, 3) := by decide +kernel
theorem dX6_sizeOf_7 : decode cX6_sizeOf 7 = .ok (.iload_n 1, 1) := by decide +kernel
theorem dX6_sizeOf_8 : decode cX6_sizeOf 8 = .ok (.imul, 1) := by decide +kernel
theorem dX6_sizeOf_9 : decode cX6_sizeOf 9 = .ok (.iload_n 2, 1) := by decide +kernel
theorem dX6_sizeOf_10 : decode cX6_sizeOf 10 = .ok (.iadd, 1) := by decide +kernel
theorem dX6_sizeOf_11 : decode cX6_sizeOf 11 = .ok (.iaload, 1) := by decide +kernel
theorem dX6_sizeOf_12 : decode cX6_sizeOf 12 = .ok (.ireturn, 1) := by decide +kernel
set_option maxRecDepth 20000 in
theorem ggX6_bestFor_X6_sizeOf : GoodIn wsX6_bestFor wsX6_sizeOf := goodIn_r _ [6, 7, 8, 9, 10, 11, 12, 13, 14, 15, 16, 17, 18, 19, 20, 21, 22, 23, 24, 25] (by decide +kernel) (by decide +kernel)
set_option maxRecDepth 20000 in
theorem gX6_bestFor_X6_sizeOf : GoodIn wsX6_bestFor (wsV RX6 71 RX6 yX6_sizeOf wsX6_sizeOf) := goodIn_app (goodIn_of _ (by decide +kernel)) ggX6_bestFor_X6_sizeOf
theorem dX6_bestFor_0 : decode cX6_bestFor 0 = .ok (.aload_n 0, 1) := by decide +kernel
theorem dX6_bestFor_1 : decode cX6_bestFor 1 = .ok (.iload_n 1, 1) := by decide +kernel
theorem dX6_bestFor_2 : decode cX6_bestFor 2 = .ok (.iconst 1, 1) := by decide +kernel
theorem dX6_bestFor_3 : decode cX6_bestFor 3 = .ok (.iadd, 1) := by decide +kernel
theorem dX6_bestFor_4 : decode cX6_bestFor 4 = .ok (.iload_n 2, 1) := by decide +kernel
theorem dX6_bestFor_5 : decode cX6_bestFor 5 = .ok (.invokevirtual 71, 3) := by decide +kernel
theorem dX6_bestFor_8 : decode cX6_bestFor 8 = .ok (.istore_n 3, 1) := by decide +kernel
theorem dX6_bestFor_9 : decode cX6_bestFor 9 = .ok (.iconst 0, 1) := by decide +kernel
theorem dX6_bestFor_10 : decode cX6_bestFor 10 = .ok (.istore 4, 2) := by decide +kernel
theorem dX6_bestFor_12 : decode cX6_bestFor 12 = .ok (.iload 4, 2) := by decide +kernel
theorem dX6_bestFor_14 : decode cX6_bestFor 14 = .ok (.bipush 8, 2) := by decide +kernel
theorem dX6_bestFor_16 : decode cX6_bestFor 16 = .ok (.if_icmp .ge 57, 3) := by decide +kernel
theorem dX6_bestFor_19 : decode cX6_bestFor 19 = .ok (.aload_n 0, 1) := by decide +kernel
theorem dX6_bestFor_20 : decode cX6_bestFor 20 = .ok (.getfield 25, 3) := by decide +kernel
theorem dX6_bestFor_23 : decode cX6_bestFor 23 = .ok (.iload_n 1, 1) := by decide +kernel
theorem dX6_bestFor_24 : decode cX6_bestFor 24 = .ok (.iaload, 1) := by decide +kernel
theorem dX6_bestFor_25 : decode cX6_bestFor 25 = .ok (.iload_n 2, 1) := by decide +kernel
theorem dX6_bestFor_26 : decode cX6_bestFor 26 = .ok (.iand, 1) := by decide +kernel
theorem dX6_bestFor_27 : decode cX6_bestFor 27 = .ok (.iconst 1, 1) := by decide +kernel
theorem dX6_bestFor_28 : decode cX6_bestFor 28 = .ok (.iload 4, 2) := by decide +kernel
theorem dX6_bestFor_30 : decode cX6_bestFor 30 = .ok (.ishl, 1) := by decide +kernel
theorem dX6_bestFor_31 : decode cX6_bestFor 31 = .ok (.iand, 1) := by decide +kernel
theorem dX6_bestFor_32 : decode cX6_bestFor 32 = .ok (.ifCond .eq 35, 3) := by decide +kernel
theorem dX6_bestFor_35 : decode cX6_bestFor 35 = .ok (.iconst 1, 1) := by decide +kernel
theorem dX6_bestFor_36 : decode cX6_bestFor 36 = .ok (.aload_n 0, 1) := by decide +kernel
theorem dX6_bestFor_37 : decode cX6_bestFor 37 = .ok (.iload_n 1, 1) := by decide +kernel
theorem dX6_bestFor_38 : decode cX6_bestFor 38 = .ok (.iconst 1, 1) := by decide +kernel
theorem dX6_bestFor_39 : decode cX6_bestFor 39 = .ok (.iadd, 1) := by decide +kernel
theorem dX6_bestFor_40 : decode cX6_bestFor 40 = .ok (.iload_n 2, 1) := by decide +kernel
theorem dX6_bestFor_41 : decode cX6_bestFor 41 = .ok (.iconst 1, 1) := by decide +kernel
theorem dX6_bestFor_42 : decode cX6_bestFor 42 = .ok (.iload 4, 2) := by decide +kernel
theorem dX6_bestFor_44 : decode cX6_bestFor 44 = .ok (.ishl, 1) := by decide +kernel
theorem dX6_bestFor_45 : decode cX6_bestFor 45 = .ok (.iconst (-1), 1) := by decide +kernel
theorem dX6_bestFor_46 : decode cX6_bestFor 46 = .ok (.ixor, 1) := by decide +kernel
theorem dX6_bestFor_47 : decode cX6_bestFor 47 = .ok (.iand, 1) := by decide +kernel
theorem dX6_bestFor_48 : decode cX6_bestFor 48 = .ok (.invokevirtual 71, 3) := by decide +kernel
theorem dX6_bestFor_51 : decode cX6_bestFor 51 = .ok (.iadd, 1) := by decide +kernel
theorem dX6_bestFor_52 : decode cX6_bestFor 52 = .ok (.istore 5, 2) := by decide +kernel
theorem dX6_bestFor_54 : decode cX6_bestFor 54 = .ok (.iload 5, 2) := by decide +kernel
theorem dX6_bestFor_56 : decode cX6_bestFor 56 = .ok (.iload_n 3, 1) := by decide +kernel
theorem dX6_bestFor_57 : decode cX6_bestFor 57 = .ok (.if_icmp .le 8, 3) := by decide +kernel
theorem dX6_bestFor_60 : decode cX6_bestFor 60 = .ok (.iload 5, 2) := by decide +kernel
theorem dX6_bestFor_62 : decode cX6_bestFor 62 = .ok (.goto 4, 3) := by decide +kernel
theorem dX6_bestFor_65 : decode cX6_bestFor 65 = .ok (.iload_n 3, 1) := by decide +kernel
theorem dX6_bestFor_66 : decode cX6_bestFor 66 = .ok (.istore_n 3, 1) := by decide +kernel
theorem dX6_bestFor_67 : decode cX6_bestFor 67 = .ok (.iinc 4 1, 3) := by decide +kernel
theorem dX6_bestFor_70 : decode cX6_bestFor 70 = .ok (.goto (-58), 3) := by decide +kernel
theorem dX6_bestFor_73 : decode cX6_bestFor 73 = .ok (.iload_n 3, 1) := by decide +kernel
theorem dX6_bestFor_74 : decode cX6_bestFor 74 = .ok (.ireturn, 1) := by decide +kernel
set_option maxRecDepth 20000 in
theorem ggX6_fills_X6_bestFor : GoodIn wsX6_fills wsX6_bestFor := goodIn_r _ [6, 7, 8, 9, 10, 5, 11, 1, 12, 13, 14, 15, 16, 17, 18, 19, 20, 21, 22, 23, 24, 25, 26, 27, 28, 29] (by decide +kernel) (by decide +kernel)
set_option maxRecDepth 20000 in
theorem gX6_fills_X6_bestFor : GoodIn wsX6_fills (wsV RX6 75 RX6 yX6_bestFor wsX6_bestFor) := goodIn_app (goodIn_of _ (by decide +kernel)) ggX6_fills_X6_bestFor
set_option maxRecDepth 20000 in
theorem ggX6_fills_X6_sizeOf : GoodIn wsX6_fills wsX6_sizeOf := goodIn_r _ [11, 1, 12, 13, 14, 15, 16, 17, 18, 19, 20, 21, 22, 23, 24, 25, 26, 27, 28, 29] (by decide +kernel) (by decide +kernel)
set_option maxRecDepth 20000 in
theorem gX6_fills_X6_sizeOf : GoodIn wsX6_fills (wsV RX6 71 RX6 yX6_sizeOf wsX6_sizeOf) := goodIn_app (goodIn_of _ (by decide +kernel)) ggX6_fills_X6_sizeOf
theorem dX6_fills_0 : decode cX6_fills 0 = .ok (.iconst 0, 1) := by decide +kernel
theorem dX6_fills_1 : decode cX6_fills 1 = .ok (.istore_n 1, 1) := by decide +kernel
theorem dX6_fills_2 : decode cX6_fills 2 = .ok (.iload_n 1, 1) := by decide +kernel
theorem dX6_fills_3 : decode cX6_fills 3 = .ok (.sipush 256, 3) := by decide +kernel
theorem dX6_fills_6 : decode cX6_fills 6 = .ok (.if_icmp .ge 20, 3) := by decide +kernel
theorem dX6_fills_9 : decode cX6_fills 9 = .ok (.aload_n 0, 1) := by decide +kernel
theorem dX6_fills_10 : decode cX6_fills 10 = .ok (.getfield 28, 3) := by decide +kernel
theorem dX6_fills_13 : decode cX6_fills 13 = .ok (.sipush 2048, 3) := by decide +kernel
theorem dX6_fills_16 : decode cX6_fills 16 = .ok (.iload_n 1, 1) := by decide +kernel
theorem dX6_fills_17 : decode cX6_fills 17 = .ok (.iadd, 1) := by decide +kernel
theorem dX6_fills_18 : decode cX6_fills 18 = .ok (.iconst 0, 1) := by decide +kernel
theorem dX6_fills_19 : decode cX6_fills 19 = .ok (.iastore, 1) := by decide +kernel
theorem dX6_fills_20 : decode cX6_fills 20 = .ok (.iinc 1 1, 3) := by decide +kernel
theorem dX6_fills_23 : decode cX6_fills 23 = .ok (.goto (-21), 3) := by decide +kernel
theorem dX6_fills_26 : decode cX6_fills 26 = .ok (.bipush 7, 2) := by decide +kernel
theorem dX6_fills_28 : decode cX6_fills 28 = .ok (.istore_n 1, 1) := by decide +kernel
theorem dX6_fills_29 : decode cX6_fills 29 = .ok (.iload_n 1, 1) := by decide +kernel
theorem dX6_fills_30 : decode cX6_fills 30 = .ok (.ifCond .lt 42, 3) := by decide +kernel
theorem dX6_fills_33 : decode cX6_fills 33 = .ok (.iconst 0, 1) := by decide +kernel
theorem dX6_fills_34 : decode cX6_fills 34 = .ok (.istore_n 2, 1) := by decide +kernel
theorem dX6_fills_35 : decode cX6_fills 35 = .ok (.iload_n 2, 1) := by decide +kernel
theorem dX6_fills_36 : decode cX6_fills 36 = .ok (.sipush 256, 3) := by decide +kernel
theorem dX6_fills_39 : decode cX6_fills 39 = .ok (.if_icmp .ge 27, 3) := by decide +kernel
theorem dX6_fills_42 : decode cX6_fills 42 = .ok (.aload_n 0, 1) := by decide +kernel
theorem dX6_fills_43 : decode cX6_fills 43 = .ok (.getfield 28, 3) := by decide +kernel
theorem dX6_fills_46 : decode cX6_fills 46 = .ok (.sipush 256, 3) := by decide +kernel
theorem dX6_fills_49 : decode cX6_fills 49 = .ok (.iload_n 1, 1) := by decide +kernel
theorem dX6_fills_50 : decode cX6_fills 50 = .ok (.imul, 1) := by decide +kernel
theorem dX6_fills_51 : decode cX6_fills 51 = .ok (.iload_n 2, 1) := by decide +kernel
theorem dX6_fills_52 : decode cX6_fills 52 = .ok (.iadd, 1) := by decide +kernel
theorem dX6_fills_53 : decode cX6_fills 53 = .ok (.aload_n 0, 1) := by decide +kernel
theorem dX6_fills_54 : decode cX6_fills 54 = .ok (.iload_n 1, 1) := by decide +kernel
theorem dX6_fills_55 : decode cX6_fills 55 = .ok (.iload_n 2, 1) := by decide +kernel
theorem dX6_fills_56 : decode cX6_fills 56 = .ok (.invokevirtual 75, 3) := by decide +kernel
theorem dX6_fills_59 : decode cX6_fills 59 = .ok (.iastore, 1) := by decide +kernel
theorem dX6_fills_60 : decode cX6_fills 60 = .ok (.iinc 2 1, 3) := by decide +kernel
theorem dX6_fills_63 : decode cX6_fills 63 = .ok (.goto (-28), 3) := by decide +kernel
theorem dX6_fills_66 : decode cX6_fills 66 = .ok (.iinc 1 (-1), 3) := by decide +kernel
theorem dX6_fills_69 : decode cX6_fills 69 = .ok (.goto (-40), 3) := by decide +kernel
theorem dX6_fills_72 : decode cX6_fills 72 = .ok (.aload_n 0, 1) := by decide +kernel
theorem dX6_fills_73 : decode cX6_fills 73 = .ok (.iconst 0, 1) := by decide +kernel
theorem dX6_fills_74 : decode cX6_fills 74 = .ok (.sipush 255, 3) := by decide +kernel
theorem dX6_fills_77 : decode cX6_fills 77 = .ok (.invokevirtual 71, 3) := by decide +kernel
theorem dX6_fills_80 : decode cX6_fills 80 = .ok (.ireturn, 1) := by decide +kernel
set_option maxRecDepth 20000 in
theorem ggX6_firstFor_X6_sizeOf : GoodIn wsX6_firstFor wsX6_sizeOf := goodIn_r _ [6, 7, 8, 9, 10, 11, 12, 13, 14, 15, 16, 17, 18, 19, 20, 21, 22, 23, 24, 25] (by decide +kernel) (by decide +kernel)
set_option maxRecDepth 20000 in
theorem gX6_firstFor_X6_sizeOf : GoodIn wsX6_firstFor (wsV RX6 71 RX6 yX6_sizeOf wsX6_sizeOf) := goodIn_app (goodIn_of _ (by decide +kernel)) ggX6_firstFor_X6_sizeOf
theorem dX6_firstFor_0 : decode cX6_firstFor 0 = .ok (.iconst 0, 1) := by decide +kernel
theorem dX6_firstFor_1 : decode cX6_firstFor 1 = .ok (.istore_n 3, 1) := by decide +kernel
theorem dX6_firstFor_2 : decode cX6_firstFor 2 = .ok (.iload_n 3, 1) := by decide +kernel
theorem dX6_firstFor_3 : decode cX6_firstFor 3 = .ok (.bipush 8, 2) := by decide +kernel
theorem dX6_firstFor_5 : decode cX6_firstFor 5 = .ok (.if_icmp .ge 63, 3) := by decide +kernel
theorem dX6_firstFor_8 : decode cX6_firstFor 8 = .ok (.aload_n 0, 1) := by decide +kernel
theorem dX6_firstFor_9 : decode cX6_firstFor 9 = .ok (.getfield 25, 3) := by decide +kernel
theorem dX6_firstFor_12 : decode cX6_firstFor 12 = .ok (.iload_n 1, 1) := by decide +kernel
theorem dX6_firstFor_13 : decode cX6_firstFor 13 = .ok (.iaload, 1) := by decide +kernel
theorem dX6_firstFor_14 : decode cX6_firstFor 14 = .ok (.iload_n 2, 1) := by decide +kernel
theorem dX6_firstFor_15 : decode cX6_firstFor 15 = .ok (.iand, 1) := by decide +kernel
theorem dX6_firstFor_16 : decode cX6_firstFor 16 = .ok (.iconst 1, 1) := by decide +kernel
theorem dX6_firstFor_17 : decode cX6_firstFor 17 = .ok (.iload_n 3, 1) := by decide +kernel
theorem dX6_firstFor_18 : decode cX6_firstFor 18 = .ok (.ishl, 1) := by decide +kernel
theorem dX6_firstFor_19 : decode cX6_firstFor 19 = .ok (.iand, 1) := by decide +kernel
theorem dX6_firstFor_20 : decode cX6_firstFor 20 = .ok (.ifCond .eq 7, 3) := by decide +kernel
theorem dX6_firstFor_23 : decode cX6_firstFor 23 = .ok (.iconst 1, 1) := by decide +kernel
theorem dX6_firstFor_24 : decode cX6_firstFor 24 = .ok (.goto 4, 3) := by decide +kernel
theorem dX6_firstFor_27 : decode cX6_firstFor 27 = .ok (.iconst 0, 1) := by decide +kernel
theorem dX6_firstFor_28 : decode cX6_firstFor 28 = .ok (.istore 4, 2) := by decide +kernel
theorem dX6_firstFor_30 : decode cX6_firstFor 30 = .ok (.iload 4, 2) := by decide +kernel
theorem dX6_firstFor_32 : decode cX6_firstFor 32 = .ok (.ifCond .eq 30, 3) := by decide +kernel
theorem dX6_firstFor_35 : decode cX6_firstFor 35 = .ok (.iconst 1, 1) := by decide +kernel
theorem dX6_firstFor_36 : decode cX6_firstFor 36 = .ok (.aload_n 0, 1) := by decide +kernel
theorem dX6_firstFor_37 : decode cX6_firstFor 37 = .ok (.iload_n 1, 1) := by decide +kernel
theorem dX6_firstFor_38 : decode cX6_firstFor 38 = .ok (.iconst 1, 1) := by decide +kernel
theorem dX6_firstFor_39 : decode cX6_firstFor 39 = .ok (.iadd, 1) := by decide +kernel
theorem dX6_firstFor_40 : decode cX6_firstFor 40 = .ok (.iload_n 2, 1) := by decide +kernel
theorem dX6_firstFor_41 : decode cX6_firstFor 41 = .ok (.iconst 1, 1) := by decide +kernel
theorem dX6_firstFor_42 : decode cX6_firstFor 42 = .ok (.iload_n 3, 1) := by decide +kernel
theorem dX6_firstFor_43 : decode cX6_firstFor 43 = .ok (.ishl, 1) := by decide +kernel
theorem dX6_firstFor_44 : decode cX6_firstFor 44 = .ok (.iconst (-1), 1) := by decide +kernel
theorem dX6_firstFor_45 : decode cX6_firstFor 45 = .ok (.ixor, 1) := by decide +kernel
theorem dX6_firstFor_46 : decode cX6_firstFor 46 = .ok (.iand, 1) := by decide +kernel
theorem dX6_firstFor_47 : decode cX6_firstFor 47 = .ok (.invokevirtual 71, 3) := by decide +kernel
theorem dX6_firstFor_50 : decode cX6_firstFor 50 = .ok (.iadd, 1) := by decide +kernel
theorem dX6_firstFor_51 : decode cX6_firstFor 51 = .ok (.aload_n 0, 1) := by decide +kernel
theorem dX6_firstFor_52 : decode cX6_firstFor 52 = .ok (.iload_n 1, 1) := by decide +kernel
theorem dX6_firstFor_53 : decode cX6_firstFor 53 = .ok (.iload_n 2, 1) := by decide +kernel
theorem dX6_firstFor_54 : decode cX6_firstFor 54 = .ok (.invokevirtual 71, 3) := by decide +kernel
theorem dX6_firstFor_57 : decode cX6_firstFor 57 = .ok (.if_icmp .ne 5, 3) := by decide +kernel
theorem dX6_firstFor_60 : decode cX6_firstFor 60 = .ok (.iload_n 3, 1) := by decide +kernel
theorem dX6_firstFor_61 : decode cX6_firstFor 61 = .ok (.ireturn, 1) := by decide +kernel
theorem dX6_firstFor_62 : decode cX6_firstFor 62 = .ok (.iinc 3 1, 3) := by decide +kernel
theorem dX6_firstFor_65 : decode cX6_firstFor 65 = .ok (.goto (-63), 3) := by decide +kernel
theorem dX6_firstFor_68 : decode cX6_firstFor 68 = .ok (.bipush (-5), 2) := by decide +kernel
theorem dX6_firstFor_70 : decode cX6_firstFor 70 = .ok (.ireturn, 1) := by decide +kernel
set_option maxRecDepth 20000 in
theorem ggX6_matches_X6_findsCan : GoodIn wsX6_matches wsX6_findsCan := goodIn_r _ [6, 7, 8, 9, 10, 5, 11, 12, 13, 14, 15, 16, 17, 18, 19, 20, 21, 22, 23, 24, 42, 43, 44, 45, 46, 47, 48, 49, 50, 51, 52, 53, 54, 55, 56, 57, 58, 59] (by decide +kernel) (by decide +kernel)
set_option maxRecDepth 20000 in
theorem gX6_matches_X6_findsCan : GoodIn wsX6_matches (wsV RX6 78 RX6 yX6_findsCan wsX6_findsCan) := goodIn_app (goodIn_of _ (by decide +kernel)) ggX6_matches_X6_findsCan
set_option maxRecDepth 20000 in
theorem ggX6_matches_X6_fills : GoodIn wsX6_matches wsX6_fills := goodIn_r _ [28, 29, 30, 31, 32, 5, 33, 7, 34, 35, 36, 37, 42, 43, 44, 45, 46, 47, 48, 49, 50, 51, 52, 53, 54, 55, 56, 57, 58, 59] (by decide +kernel) (by decide +kernel)
set_option maxRecDepth 20000 in
theorem gX6_matches_X6_fills : GoodIn wsX6_matches (wsV RX6 82 RX6 yX6_fills wsX6_fills) := goodIn_app (goodIn_of _ (by decide +kernel)) ggX6_matches_X6_fills
set_option maxRecDepth 20000 in
theorem ggX6_matches_X6_firstFor : GoodIn wsX6_matches wsX6_firstFor := goodIn_r _ [41, 7, 34, 35, 36, 5, 37, 29, 42, 43, 44, 45, 46, 47, 48, 49, 50, 51, 52, 53, 54, 55, 56, 57, 58, 59] (by decide +kernel) (by decide +kernel)
set_option maxRecDepth 20000 in
theorem gX6_matches_X6_firstFor : GoodIn wsX6_matches (wsV RX6 86 RX6 yX6_firstFor wsX6_firstFor) := goodIn_app (goodIn_of _ (by decide +kernel)) ggX6_matches_X6_firstFor
theorem dX6_matches_0 : decode cX6_matches 0 = .ok (.aload_n 0, 1) := by decide +kernel
theorem dX6_matches_1 : decode cX6_matches 1 = .ok (.bipush (-5), 2) := by decide +kernel
theorem dX6_matches_3 : decode cX6_matches 3 = .ok (.invokevirtual 78, 3) := by decide +kernel
theorem dX6_matches_6 : decode cX6_matches 6 = .ok (.aload_n 0, 1) := by decide +kernel
theorem dX6_matches_7 : decode cX6_matches 7 = .ok (.invokevirtual 82, 3) := by decide +kernel
theorem dX6_matches_10 : decode cX6_matches 10 = .ok (.istore_n 1, 1) := by decide +kernel
theorem dX6_matches_11 : decode cX6_matches 11 = .ok (.sipush 255, 3) := by decide +kernel
theorem dX6_matches_14 : decode cX6_matches 14 = .ok (.istore_n 2, 1) := by decide +kernel
theorem dX6_matches_15 : decode cX6_matches 15 = .ok (.iconst 0, 1) := by decide +kernel
theorem dX6_matches_16 : decode cX6_matches 16 = .ok (.istore_n 3, 1) := by decide +kernel
theorem dX6_matches_17 : decode cX6_matches 17 = .ok (.iload_n 3, 1) := by decide +kernel
theorem dX6_matches_18 : decode cX6_matches 18 = .ok (.bipush 8, 2) := by decide +kernel
theorem dX6_matches_20 : decode cX6_matches 20 = .ok (.if_icmp .ge 49, 3) := by decide +kernel
theorem dX6_matches_23 : decode cX6_matches 23 = .ok (.aload_n 0, 1) := by decide +kernel
theorem dX6_matches_24 : decode cX6_matches 24 = .ok (.getfield 31, 3) := by decide +kernel
theorem dX6_matches_27 : decode cX6_matches 27 = .ok (.iload_n 3, 1) := by decide +kernel
theorem dX6_matches_28 : decode cX6_matches 28 = .ok (.aload_n 0, 1) := by decide +kernel
theorem dX6_matches_29 : decode cX6_matches 29 = .ok (.iload_n 3, 1) := by decide +kernel
theorem dX6_matches_30 : decode cX6_matches 30 = .ok (.iload_n 2, 1) := by decide +kernel
theorem dX6_matches_31 : decode cX6_matches 31 = .ok (.invokevirtual 86, 3) := by decide +kernel
theorem dX6_matches_34 : decode cX6_matches 34 = .ok (.iastore, 1) := by decide +kernel
theorem dX6_matches_35 : decode cX6_matches 35 = .ok (.iload_n 2, 1) := by decide +kernel
theorem dX6_matches_36 : decode cX6_matches 36 = .ok (.aload_n 0, 1) := by decide +kernel
theorem dX6_matches_37 : decode cX6_matches 37 = .ok (.getfield 31, 3) := by decide +kernel
theorem dX6_matches_40 : decode cX6_matches 40 = .ok (.iload_n 3, 1) := by decide +kernel
theorem dX6_matches_41 : decode cX6_matches 41 = .ok (.iaload, 1) := by decide +kernel
theorem dX6_matches_42 : decode cX6_matches 42 = .ok (.bipush (-5), 2) := by decide +kernel
theorem dX6_matches_44 : decode cX6_matches 44 = .ok (.if_icmp .ne 7, 3) := by decide +kernel
theorem dX6_matches_47 : decode cX6_matches 47 = .ok (.iconst (-1), 1) := by decide +kernel
theorem dX6_matches_48 : decode cX6_matches 48 = .ok (.goto 13, 3) := by decide +kernel
theorem dX6_matches_51 : decode cX6_matches 51 = .ok (.iconst 1, 1) := by decide +kernel
theorem dX6_matches_52 : decode cX6_matches 52 = .ok (.aload_n 0, 1) := by decide +kernel
theorem dX6_matches_53 : decode cX6_matches 53 = .ok (.getfield 31, 3) := by decide +kernel
theorem dX6_matches_56 : decode cX6_matches 56 = .ok (.iload_n 3, 1) := by decide +kernel
theorem dX6_matches_57 : decode cX6_matches 57 = .ok (.iaload, 1) := by decide +kernel
theorem dX6_matches_58 : decode cX6_matches 58 = .ok (.ishl, 1) := by decide +kernel
theorem dX6_matches_59 : decode cX6_matches 59 = .ok (.iconst (-1), 1) := by decide +kernel
theorem dX6_matches_60 : decode cX6_matches 60 = .ok (.ixor, 1) := by decide +kernel
theorem dX6_matches_61 : decode cX6_matches 61 = .ok (.iand, 1) := by decide +kernel
theorem dX6_matches_62 : decode cX6_matches 62 = .ok (.istore_n 2, 1) := by decide +kernel
theorem dX6_matches_63 : decode cX6_matches 63 = .ok (.iinc 3 1, 3) := by decide +kernel
theorem dX6_matches_66 : decode cX6_matches 66 = .ok (.goto (-49), 3) := by decide +kernel
theorem dX6_matches_69 : decode cX6_matches 69 = .ok (.iload_n 1, 1) := by decide +kernel
theorem dX6_matches_70 : decode cX6_matches 70 = .ok (.ireturn, 1) := by decide +kernel
theorem dX6_openMany_0 : decode cX6_openMany 0 = .ok (.iconst 0, 1) := by decide +kernel
theorem dX6_openMany_1 : decode cX6_openMany 1 = .ok (.istore_n 1, 1) := by decide +kernel
theorem dX6_openMany_2 : decode cX6_openMany 2 = .ok (.iconst 0, 1) := by decide +kernel
theorem dX6_openMany_3 : decode cX6_openMany 3 = .ok (.istore_n 2, 1) := by decide +kernel
theorem dX6_openMany_4 : decode cX6_openMany 4 = .ok (.iload_n 2, 1) := by decide +kernel
theorem dX6_openMany_5 : decode cX6_openMany 5 = .ok (.bipush 64, 2) := by decide +kernel
theorem dX6_openMany_7 : decode cX6_openMany 7 = .ok (.if_icmp .ge 21, 3) := by decide +kernel
theorem dX6_openMany_10 : decode cX6_openMany 10 = .ok (.iload_n 1, 1) := by decide +kernel
theorem dX6_openMany_11 : decode cX6_openMany 11 = .ok (.aload_n 0, 1) := by decide +kernel
theorem dX6_openMany_12 : decode cX6_openMany 12 = .ok (.getfield 7, 3) := by decide +kernel
theorem dX6_openMany_15 : decode cX6_openMany 15 = .ok (.bipush 97, 2) := by decide +kernel
theorem dX6_openMany_17 : decode cX6_openMany 17 = .ok (.iload_n 2, 1) := by decide +kernel
theorem dX6_openMany_18 : decode cX6_openMany 18 = .ok (.iadd, 1) := by decide +kernel
theorem dX6_openMany_19 : decode cX6_openMany 19 = .ok (.iaload, 1) := by decide +kernel
theorem dX6_openMany_20 : decode cX6_openMany 20 = .ok (.iadd, 1) := by decide +kernel
theorem dX6_openMany_21 : decode cX6_openMany 21 = .ok (.istore_n 1, 1) := by decide +kernel
theorem dX6_openMany_22 : decode cX6_openMany 22 = .ok (.iinc 2 1, 3) := by decide +kernel
theorem dX6_openMany_25 : decode cX6_openMany 25 = .ok (.goto (-21), 3) := by decide +kernel
theorem dX6_openMany_28 : decode cX6_openMany 28 = .ok (.iload_n 1, 1) := by decide +kernel
theorem dX6_openMany_29 : decode cX6_openMany 29 = .ok (.ireturn, 1) := by decide +kernel
set_option maxRecDepth 20000 in
theorem ggX6_wish_X6_isPair : GoodIn wsX6_wish wsX6_isPair := goodIn_r _ [6, 7, 8, 5, 9, 10, 11, 12] (by decide +kernel) (by decide +kernel)
set_option maxRecDepth 20000 in
theorem gX6_wish_X6_isPair : GoodIn wsX6_wish (va_wsS RX6 89 yX6_isPair wsX6_isPair) := goodIn_app (goodIn_of _ (by decide +kernel)) ggX6_wish_X6_isPair
set_option maxRecDepth 20000 in
theorem ggX6_wish_X6_isOpen : GoodIn wsX6_wish wsX6_isOpen := goodIn_r _ [16, 2, 27, 28, 29, 30, 31, 32, 33, 34, 35, 36, 37, 38, 39, 40, 41, 42, 43, 44] (by decide +kernel) (by decide +kernel)
set_option maxRecDepth 20000 in
theorem gX6_wish_X6_isOpen : GoodIn wsX6_wish (wsV RX6 62 RX6 yX6_isOpen wsX6_isOpen) := goodIn_app (goodIn_of _ (by decide +kernel)) ggX6_wish_X6_isOpen
set_option maxRecDepth 20000 in
theorem ggX6_wish_X6_records : GoodIn wsX6_wish wsX6_records := goodIn_r _ [20, 21, 22, 2, 27, 28, 29, 30, 31, 32, 33, 34, 35, 36, 37, 38, 39, 40, 41, 42, 43, 44] (by decide +kernel) (by decide +kernel)
set_option maxRecDepth 20000 in
theorem gX6_wish_X6_records : GoodIn wsX6_wish (wsV RX6 92 RX6 yX6_records wsX6_records) := goodIn_app (goodIn_of _ (by decide +kernel)) ggX6_wish_X6_records
set_option maxRecDepth 20000 in
theorem ggX6_wish_X6_openMany : GoodIn wsX6_wish wsX6_openMany := goodIn_r _ [26, 2, 27, 28, 29, 30, 31, 32, 33, 34, 35, 36, 37, 38, 39, 40, 41, 42, 43, 44] (by decide +kernel) (by decide +kernel)
set_option maxRecDepth 20000 in
theorem gX6_wish_X6_openMany : GoodIn wsX6_wish (wsV RX6 95 RX6 yX6_openMany wsX6_openMany) := goodIn_app (goodIn_of _ (by decide +kernel)) ggX6_wish_X6_openMany
theorem dX6_wish_0 : decode cX6_wish 0 = .ok (.aload_n 0, 1) := by decide +kernel
theorem dX6_wish_1 : decode cX6_wish 1 = .ok (.iconst 0, 1) := by decide +kernel
theorem dX6_wish_2 : decode cX6_wish 2 = .ok (.putfield 43, 3) := by decide +kernel
theorem dX6_wish_5 : decode cX6_wish 5 = .ok (.iload_n 1, 1) := by decide +kernel
theorem dX6_wish_6 : decode cX6_wish 6 = .ok (.iload_n 2, 1) := by decide +kernel
theorem dX6_wish_7 : decode cX6_wish 7 = .ok (.invokestatic 89, 3) := by decide +kernel
theorem dX6_wish_10 : decode cX6_wish 10 = .ok (.ifCond .ne 5, 3) := by decide +kernel
theorem dX6_wish_13 : decode cX6_wish 13 = .ok (.iconst (-1), 1) := by decide +kernel
theorem dX6_wish_14 : decode cX6_wish 14 = .ok (.ireturn, 1) := by decide +kernel
theorem dX6_wish_15 : decode cX6_wish 15 = .ok (.aload_n 0, 1) := by decide +kernel
theorem dX6_wish_16 : decode cX6_wish 16 = .ok (.iload_n 1, 1) := by decide +kernel
theorem dX6_wish_17 : decode cX6_wish 17 = .ok (.iload_n 2, 1) := by decide +kernel
theorem dX6_wish_18 : decode cX6_wish 18 = .ok (.invokevirtual 62, 3) := by decide +kernel
theorem dX6_wish_21 : decode cX6_wish 21 = .ok (.ifCond .eq 6, 3) := by decide +kernel
theorem dX6_wish_24 : decode cX6_wish 24 = .ok (.bipush (-4), 2) := by decide +kernel
theorem dX6_wish_26 : decode cX6_wish 26 = .ok (.ireturn, 1) := by decide +kernel
theorem dX6_wish_27 : decode cX6_wish 27 = .ok (.aload_n 0, 1) := by decide +kernel
theorem dX6_wish_28 : decode cX6_wish 28 = .ok (.invokevirtual 92, 3) := by decide +kernel
theorem dX6_wish_31 : decode cX6_wish 31 = .ok (.aload_n 0, 1) := by decide +kernel
theorem dX6_wish_32 : decode cX6_wish 32 = .ok (.getfield 7, 3) := by decide +kernel
theorem dX6_wish_35 : decode cX6_wish 35 = .ok (.bipush 97, 2) := by decide +kernel
theorem dX6_wish_37 : decode cX6_wish 37 = .ok (.bipush 8, 2) := by decide +kernel
theorem dX6_wish_39 : decode cX6_wish 39 = .ok (.iload_n 1, 1) := by decide +kernel
theorem dX6_wish_40 : decode cX6_wish 40 = .ok (.imul, 1) := by decide +kernel
theorem dX6_wish_41 : decode cX6_wish 41 = .ok (.iadd, 1) := by decide +kernel
theorem dX6_wish_42 : decode cX6_wish 42 = .ok (.iload_n 2, 1) := by decide +kernel
theorem dX6_wish_43 : decode cX6_wish 43 = .ok (.iadd, 1) := by decide +kernel
theorem dX6_wish_44 : decode cX6_wish 44 = .ok (.iconst 1, 1) := by decide +kernel
theorem dX6_wish_45 : decode cX6_wish 45 = .ok (.iastore, 1) := by decide +kernel
theorem dX6_wish_46 : decode cX6_wish 46 = .ok (.aload_n 0, 1) := by decide +kernel
theorem dX6_wish_47 : decode cX6_wish 47 = .ok (.invokevirtual 95, 3) := by decide +kernel
theorem dX6_wish_50 : decode cX6_wish 50 = .ok (.ireturn, 1) := by decide +kernel
set_option maxRecDepth 20000 in
theorem ggX6_withdraw_X6_isPair : GoodIn wsX6_withdraw wsX6_isPair := goodIn_r _ [6, 7, 8, 5, 9, 10, 11, 12] (by decide +kernel) (by decide +kernel)
set_option maxRecDepth 20000 in
theorem gX6_withdraw_X6_isPair : GoodIn wsX6_withdraw (va_wsS RX6 89 yX6_isPair wsX6_isPair) := goodIn_app (goodIn_of _ (by decide +kernel)) ggX6_withdraw_X6_isPair
set_option maxRecDepth 20000 in
theorem ggX6_withdraw_X6_isOpen : GoodIn wsX6_withdraw wsX6_isOpen := goodIn_r _ [16, 2, 27, 28, 29, 30, 31, 32, 33, 34, 35, 36, 37, 38, 39, 40, 41, 42, 43, 44] (by decide +kernel) (by decide +kernel)
set_option maxRecDepth 20000 in
theorem gX6_withdraw_X6_isOpen : GoodIn wsX6_withdraw (wsV RX6 62 RX6 yX6_isOpen wsX6_isOpen) := goodIn_app (goodIn_of _ (by decide +kernel)) ggX6_withdraw_X6_isOpen
set_option maxRecDepth 20000 in
theorem ggX6_withdraw_X6_records : GoodIn wsX6_withdraw wsX6_records := goodIn_r _ [20, 21, 22, 2, 27, 28, 29, 30, 31, 32, 33, 34, 35, 36, 37, 38, 39, 40, 41, 42, 43, 44] (by decide +kernel) (by decide +kernel)
set_option maxRecDepth 20000 in
theorem gX6_withdraw_X6_records : GoodIn wsX6_withdraw (wsV RX6 92 RX6 yX6_records wsX6_records) := goodIn_app (goodIn_of _ (by decide +kernel)) ggX6_withdraw_X6_records
set_option maxRecDepth 20000 in
theorem ggX6_withdraw_X6_openMany : GoodIn wsX6_withdraw wsX6_openMany := goodIn_r _ [26, 2, 27, 28, 29, 30, 31, 32, 33, 34, 35, 36, 37, 38, 39, 40, 41, 42, 43, 44] (by decide +kernel) (by decide +kernel)
set_option maxRecDepth 20000 in
theorem gX6_withdraw_X6_openMany : GoodIn wsX6_withdraw (wsV RX6 95 RX6 yX6_openMany wsX6_openMany) := goodIn_app (goodIn_of _ (by decide +kernel)) ggX6_withdraw_X6_openMany
theorem dX6_withdraw_0 : decode cX6_withdraw 0 = .ok (.aload_n 0, 1) := by decide +kernel
theorem dX6_withdraw_1 : decode cX6_withdraw 1 = .ok (.iconst 0, 1) := by decide +kernel
theorem dX6_withdraw_2 : decode cX6_withdraw 2 = .ok (.putfield 43, 3) := by decide +kernel
theorem dX6_withdraw_5 : decode cX6_withdraw 5 = .ok (.iload_n 1, 1) := by decide +kernel
theorem dX6_withdraw_6 : decode cX6_withdraw 6 = .ok (.iload_n 2, 1) := by decide +kernel
theorem dX6_withdraw_7 : decode cX6_withdraw 7 = .ok (.invokestatic 89, 3) := by decide +kernel
theorem dX6_withdraw_10 : decode cX6_withdraw 10 = .ok (.ifCond .ne 5, 3) := by decide +kernel
theorem dX6_withdraw_13 : decode cX6_withdraw 13 = .ok (.iconst (-1), 1) := by decide +kernel
theorem dX6_withdraw_14 : decode cX6_withdraw 14 = .ok (.ireturn, 1) := by decide +kernel
theorem dX6_withdraw_15 : decode cX6_withdraw 15 = .ok (.aload_n 0, 1) := by decide +kernel
theorem dX6_withdraw_16 : decode cX6_withdraw 16 = .ok (.iload_n 1, 1) := by decide +kernel
theorem dX6_withdraw_17 : decode cX6_withdraw 17 = .ok (.iload_n 2, 1) := by decide +kernel
theorem dX6_withdraw_18 : decode cX6_withdraw 18 = .ok (.invokevirtual 62, 3) := by decide +kernel
theorem dX6_withdraw_21 : decode cX6_withdraw 21 = .ok (.ifCond .ne 6, 3) := by decide +kernel
theorem dX6_withdraw_24 : decode cX6_withdraw 24 = .ok (.bipush (-4), 2) := by decide +kernel
theorem dX6_withdraw_26 : decode cX6_withdraw 26 = .ok (.ireturn, 1) := by decide +kernel
theorem dX6_withdraw_27 : decode cX6_withdraw 27 = .ok (.aload_n 0, 1) := by decide +kernel
theorem dX6_withdraw_28 : decode cX6_withdraw 28 = .ok (.invokevirtual 92, 3) := by decide +kernel
theorem dX6_withdraw_31 : decode cX6_withdraw 31 = .ok (.aload_n 0, 1) := by decide +kernel
theorem dX6_withdraw_32 : decode cX6_withdraw 32 = .ok (.getfield 7, 3) := by decide +kernel
theorem dX6_withdraw_35 : decode cX6_withdraw 35 = .ok (.bipush 97, 2) := by decide +kernel
theorem dX6_withdraw_37 : decode cX6_withdraw 37 = .ok (.bipush 8, 2) := by decide +kernel
theorem dX6_withdraw_39 : decode cX6_withdraw 39 = .ok (.iload_n 1, 1) := by decide +kernel
theorem dX6_withdraw_40 : decode cX6_withdraw 40 = .ok (.imul, 1) := by decide +kernel
theorem dX6_withdraw_41 : decode cX6_withdraw 41 = .ok (.iadd, 1) := by decide +kernel
theorem dX6_withdraw_42 : decode cX6_withdraw 42 = .ok (.iload_n 2, 1) := by decide +kernel
theorem dX6_withdraw_43 : decode cX6_withdraw 43 = .ok (.iadd, 1) := by decide +kernel
theorem dX6_withdraw_44 : decode cX6_withdraw 44 = .ok (.iconst 0, 1) := by decide +kernel
theorem dX6_withdraw_45 : decode cX6_withdraw 45 = .ok (.iastore, 1) := by decide +kernel
theorem dX6_withdraw_46 : decode cX6_withdraw 46 = .ok (.aload_n 0, 1) := by decide +kernel
theorem dX6_withdraw_47 : decode cX6_withdraw 47 = .ok (.invokevirtual 95, 3) := by decide +kernel
theorem dX6_withdraw_50 : decode cX6_withdraw 50 = .ok (.ireturn, 1) := by decide +kernel
set_option maxRecDepth 20000 in
theorem ggX6_quarrel_X6_isPair : GoodIn wsX6_quarrel wsX6_isPair := goodIn_r _ [6, 7, 8, 5, 9, 10, 11, 12] (by decide +kernel) (by decide +kernel)
set_option maxRecDepth 20000 in
theorem gX6_quarrel_X6_isPair : GoodIn wsX6_quarrel (va_wsS RX6 89 yX6_isPair wsX6_isPair) := goodIn_app (goodIn_of _ (by decide +kernel)) ggX6_quarrel_X6_isPair
set_option maxRecDepth 20000 in
theorem ggX6_quarrel_X6_in : GoodIn wsX6_quarrel wsX6_in := goodIn_r _ [12] (by decide +kernel) (by decide +kernel)
set_option maxRecDepth 20000 in
theorem gX6_quarrel_X6_in : GoodIn wsX6_quarrel (va_wsS RX6 47 yX6_in wsX6_in) := goodIn_app (goodIn_of _ (by decide +kernel)) ggX6_quarrel_X6_in
set_option maxRecDepth 20000 in
theorem ggX6_quarrel_X6_records : GoodIn wsX6_quarrel wsX6_records := goodIn_r _ [16, 17, 18, 2, 19, 20, 21, 22, 23, 24, 25, 26, 27, 28, 29, 30, 31, 32, 33, 34, 35, 36] (by decide +kernel) (by decide +kernel)
set_option maxRecDepth 20000 in
theorem gX6_quarrel_X6_records : GoodIn wsX6_quarrel (wsV RX6 92 RX6 yX6_records wsX6_records) := goodIn_app (goodIn_of _ (by decide +kernel)) ggX6_quarrel_X6_records
theorem dX6_quarrel_0 : decode cX6_quarrel 0 = .ok (.aload_n 0, 1) := by decide +kernel
theorem dX6_quarrel_1 : decode cX6_quarrel 1 = .ok (.iconst 0, 1) := by decide +kernel
theorem dX6_quarrel_2 : decode cX6_quarrel 2 = .ok (.putfield 43, 3) := by decide +kernel
theorem dX6_quarrel_5 : decode cX6_quarrel 5 = .ok (.iload_n 1, 1) := by decide +kernel
theorem dX6_quarrel_6 : decode cX6_quarrel 6 = .ok (.iload_n 2, 1) := by decide +kernel
theorem dX6_quarrel_7 : decode cX6_quarrel 7 = .ok (.invokestatic 89, 3) := by decide +kernel
theorem dX6_quarrel_10 : decode cX6_quarrel 10 = .ok (.ifCond .ne 5, 3) := by decide +kernel
theorem dX6_quarrel_13 : decode cX6_quarrel 13 = .ok (.iconst (-1), 1) := by decide +kernel
theorem dX6_quarrel_14 : decode cX6_quarrel 14 = .ok (.ireturn, 1) := by decide +kernel
theorem dX6_quarrel_15 : decode cX6_quarrel 15 = .ok (.iload_n 3, 1) := by decide +kernel
theorem dX6_quarrel_16 : decode cX6_quarrel 16 = .ok (.iconst 1, 1) := by decide +kernel
theorem dX6_quarrel_17 : decode cX6_quarrel 17 = .ok (.bipush 50, 2) := by decide +kernel
theorem dX6_quarrel_19 : decode cX6_quarrel 19 = .ok (.invokestatic 47, 3) := by decide +kernel
theorem dX6_quarrel_22 : decode cX6_quarrel 22 = .ok (.ifCond .ne 6, 3) := by decide +kernel
theorem dX6_quarrel_25 : decode cX6_quarrel 25 = .ok (.bipush (-2), 2) := by decide +kernel
theorem dX6_quarrel_27 : decode cX6_quarrel 27 = .ok (.ireturn, 1) := by decide +kernel
theorem dX6_quarrel_28 : decode cX6_quarrel 28 = .ok (.aload_n 0, 1) := by decide +kernel
theorem dX6_quarrel_29 : decode cX6_quarrel 29 = .ok (.invokevirtual 92, 3) := by decide +kernel
theorem dX6_quarrel_32 : decode cX6_quarrel 32 = .ok (.aload_n 0, 1) := by decide +kernel
theorem dX6_quarrel_33 : decode cX6_quarrel 33 = .ok (.getfield 7, 3) := by decide +kernel
theorem dX6_quarrel_36 : decode cX6_quarrel 36 = .ok (.bipush 33, 2) := by decide +kernel
theorem dX6_quarrel_38 : decode cX6_quarrel 38 = .ok (.bipush 8, 2) := by decide +kernel
theorem dX6_quarrel_40 : decode cX6_quarrel 40 = .ok (.iload_n 1, 1) := by decide +kernel
theorem dX6_quarrel_41 : decode cX6_quarrel 41 = .ok (.imul, 1) := by decide +kernel
theorem dX6_quarrel_42 : decode cX6_quarrel 42 = .ok (.iadd, 1) := by decide +kernel
theorem dX6_quarrel_43 : decode cX6_quarrel 43 = .ok (.iload_n 2, 1) := by decide +kernel
theorem dX6_quarrel_44 : decode cX6_quarrel 44 = .ok (.iadd, 1) := by decide +kernel
theorem dX6_quarrel_45 : decode cX6_quarrel 45 = .ok (.iaload, 1) := by decide +kernel
theorem dX6_quarrel_46 : decode cX6_quarrel 46 = .ok (.istore 4, 2) := by decide +kernel
theorem dX6_quarrel_48 : decode cX6_quarrel 48 = .ok (.aload_n 0, 1) := by decide +kernel
theorem dX6_quarrel_49 : decode cX6_quarrel 49 = .ok (.getfield 7, 3) := by decide +kernel
theorem dX6_quarrel_52 : decode cX6_quarrel 52 = .ok (.bipush 33, 2) := by decide +kernel
theorem dX6_quarrel_54 : decode cX6_quarrel 54 = .ok (.bipush 8, 2) := by decide +kernel
theorem dX6_quarrel_56 : decode cX6_quarrel 56 = .ok (.iload_n 1, 1) := by decide +kernel
theorem dX6_quarrel_57 : decode cX6_quarrel 57 = .ok (.imul, 1) := by decide +kernel
theorem dX6_quarrel_58 : decode cX6_quarrel 58 = .ok (.iadd, 1) := by decide +kernel
theorem dX6_quarrel_59 : decode cX6_quarrel 59 = .ok (.iload_n 2, 1) := by decide +kernel
theorem dX6_quarrel_60 : decode cX6_quarrel 60 = .ok (.iadd, 1) := by decide +kernel
theorem dX6_quarrel_61 : decode cX6_quarrel 61 = .ok (.iload_n 3, 1) := by decide +kernel
theorem dX6_quarrel_62 : decode cX6_quarrel 62 = .ok (.iastore, 1) := by decide +kernel
theorem dX6_quarrel_63 : decode cX6_quarrel 63 = .ok (.iload 4, 2) := by decide +kernel
theorem dX6_quarrel_65 : decode cX6_quarrel 65 = .ok (.ireturn, 1) := by decide +kernel
set_option maxRecDepth 20000 in
theorem ggX6_reconcile_X6_isPair : GoodIn wsX6_reconcile wsX6_isPair := goodIn_r _ [6, 7, 8, 5, 9, 10, 11, 12] (by decide +kernel) (by decide +kernel)
set_option maxRecDepth 20000 in
theorem gX6_reconcile_X6_isPair : GoodIn wsX6_reconcile (va_wsS RX6 89 yX6_isPair wsX6_isPair) := goodIn_app (goodIn_of _ (by decide +kernel)) ggX6_reconcile_X6_isPair
set_option maxRecDepth 20000 in
theorem ggX6_reconcile_X6_records : GoodIn wsX6_reconcile wsX6_records := goodIn_r _ [16, 17, 18, 2, 19, 20, 21, 22, 23, 24, 25, 26, 27, 28, 29, 30, 31, 32, 33, 34, 35, 36] (by decide +kernel) (by decide +kernel)
set_option maxRecDepth 20000 in
theorem gX6_reconcile_X6_records : GoodIn wsX6_reconcile (wsV RX6 92 RX6 yX6_records wsX6_records) := goodIn_app (goodIn_of _ (by decide +kernel)) ggX6_reconcile_X6_records
theorem dX6_reconcile_0 : decode cX6_reconcile 0 = .ok (.aload_n 0, 1) := by decide +kernel
theorem dX6_reconcile_1 : decode cX6_reconcile 1 = .ok (.iconst 0, 1) := by decide +kernel
theorem dX6_reconcile_2 : decode cX6_reconcile 2 = .ok (.putfield 43, 3) := by decide +kernel
theorem dX6_reconcile_5 : decode cX6_reconcile 5 = .ok (.iload_n 1, 1) := by decide +kernel
theorem dX6_reconcile_6 : decode cX6_reconcile 6 = .ok (.iload_n 2, 1) := by decide +kernel
theorem dX6_reconcile_7 : decode cX6_reconcile 7 = .ok (.invokestatic 89, 3) := by decide +kernel
theorem dX6_reconcile_10 : decode cX6_reconcile 10 = .ok (.ifCond .ne 5, 3) := by decide +kernel
theorem dX6_reconcile_13 : decode cX6_reconcile 13 = .ok (.iconst (-1), 1) := by decide +kernel
theorem dX6_reconcile_14 : decode cX6_reconcile 14 = .ok (.ireturn, 1) := by decide +kernel
theorem dX6_reconcile_15 : decode cX6_reconcile 15 = .ok (.aload_n 0, 1) := by decide +kernel
theorem dX6_reconcile_16 : decode cX6_reconcile 16 = .ok (.getfield 7, 3) := by decide +kernel
theorem dX6_reconcile_19 : decode cX6_reconcile 19 = .ok (.bipush 33, 2) := by decide +kernel
theorem dX6_reconcile_21 : decode cX6_reconcile 21 = .ok (.bipush 8, 2) := by decide +kernel
theorem dX6_reconcile_23 : decode cX6_reconcile 23 = .ok (.iload_n 1, 1) := by decide +kernel
theorem dX6_reconcile_24 : decode cX6_reconcile 24 = .ok (.imul, 1) := by decide +kernel
theorem dX6_reconcile_25 : decode cX6_reconcile 25 = .ok (.iadd, 1) := by decide +kernel
theorem dX6_reconcile_26 : decode cX6_reconcile 26 = .ok (.iload_n 2, 1) := by decide +kernel
theorem dX6_reconcile_27 : decode cX6_reconcile 27 = .ok (.iadd, 1) := by decide +kernel
theorem dX6_reconcile_28 : decode cX6_reconcile 28 = .ok (.iaload, 1) := by decide +kernel
theorem dX6_reconcile_29 : decode cX6_reconcile 29 = .ok (.istore_n 3, 1) := by decide +kernel
theorem dX6_reconcile_30 : decode cX6_reconcile 30 = .ok (.iload_n 3, 1) := by decide +kernel
theorem dX6_reconcile_31 : decode cX6_reconcile 31 = .ok (.ifCond .ne 6, 3) := by decide +kernel
theorem dX6_reconcile_34 : decode cX6_reconcile 34 = .ok (.bipush (-4), 2) := by decide +kernel
theorem dX6_reconcile_36 : decode cX6_reconcile 36 = .ok (.ireturn, 1) := by decide +kernel
theorem dX6_reconcile_37 : decode cX6_reconcile 37 = .ok (.aload_n 0, 1) := by decide +kernel
theorem dX6_reconcile_38 : decode cX6_reconcile 38 = .ok (.invokevirtual 92, 3) := by decide +kernel
theorem dX6_reconcile_41 : decode cX6_reconcile 41 = .ok (.aload_n 0, 1) := by decide +kernel
theorem dX6_reconcile_42 : decode cX6_reconcile 42 = .ok (.getfield 7, 3) := by decide +kernel
theorem dX6_reconcile_45 : decode cX6_reconcile 45 = .ok (.bipush 33, 2) := by decide +kernel
theorem dX6_reconcile_47 : decode cX6_reconcile 47 = .ok (.bipush 8, 2) := by decide +kernel
theorem dX6_reconcile_49 : decode cX6_reconcile 49 = .ok (.iload_n 1, 1) := by decide +kernel
theorem dX6_reconcile_50 : decode cX6_reconcile 50 = .ok (.imul, 1) := by decide +kernel
theorem dX6_reconcile_51 : decode cX6_reconcile 51 = .ok (.iadd, 1) := by decide +kernel
theorem dX6_reconcile_52 : decode cX6_reconcile 52 = .ok (.iload_n 2, 1) := by decide +kernel
theorem dX6_reconcile_53 : decode cX6_reconcile 53 = .ok (.iadd, 1) := by decide +kernel
theorem dX6_reconcile_54 : decode cX6_reconcile 54 = .ok (.iconst 0, 1) := by decide +kernel
theorem dX6_reconcile_55 : decode cX6_reconcile 55 = .ok (.iastore, 1) := by decide +kernel
theorem dX6_reconcile_56 : decode cX6_reconcile 56 = .ok (.iload_n 3, 1) := by decide +kernel
theorem dX6_reconcile_57 : decode cX6_reconcile 57 = .ok (.ireturn, 1) := by decide +kernel
set_option maxRecDepth 20000 in
theorem ggX6_link_X6_isGate : GoodIn wsX6_link wsX6_isGate := goodIn_r _ [6, 7, 8, 5, 9] (by decide +kernel) (by decide +kernel)
set_option maxRecDepth 20000 in
theorem gX6_link_X6_isGate : GoodIn wsX6_link (va_wsS RX6 98 yX6_isGate wsX6_isGate) := goodIn_app (goodIn_of _ (by decide +kernel)) ggX6_link_X6_isGate
set_option maxRecDepth 20000 in
theorem ggX6_link_X6_records : GoodIn wsX6_link wsX6_records := goodIn_r _ [13, 14, 15, 2, 16, 17, 18, 19, 20, 21, 22, 23, 24, 25, 26, 27, 28, 29, 30, 31, 32, 33] (by decide +kernel) (by decide +kernel)
set_option maxRecDepth 20000 in
theorem gX6_link_X6_records : GoodIn wsX6_link (wsV RX6 92 RX6 yX6_records wsX6_records) := goodIn_app (goodIn_of _ (by decide +kernel)) ggX6_link_X6_records
theorem dX6_link_0 : decode cX6_link 0 = .ok (.aload_n 0, 1) := by decide +kernel
theorem dX6_link_1 : decode cX6_link 1 = .ok (.iconst 0, 1) := by decide +kernel
theorem dX6_link_2 : decode cX6_link 2 = .ok (.putfield 43, 3) := by decide +kernel
theorem dX6_link_5 : decode cX6_link 5 = .ok (.iload_n 1, 1) := by decide +kernel
theorem dX6_link_6 : decode cX6_link 6 = .ok (.invokestatic 98, 3) := by decide +kernel
theorem dX6_link_9 : decode cX6_link 9 = .ok (.ifCond .eq 10, 3) := by decide +kernel
theorem dX6_link_12 : decode cX6_link 12 = .ok (.iload_n 2, 1) := by decide +kernel
theorem dX6_link_13 : decode cX6_link 13 = .ok (.invokestatic 98, 3) := by decide +kernel
theorem dX6_link_16 : decode cX6_link 16 = .ok (.ifCond .ne 5, 3) := by decide +kernel
theorem dX6_link_19 : decode cX6_link 19 = .ok (.iconst (-1), 1) := by decide +kernel
theorem dX6_link_20 : decode cX6_link 20 = .ok (.ireturn, 1) := by decide +kernel
theorem dX6_link_21 : decode cX6_link 21 = .ok (.aload_n 0, 1) := by decide +kernel
theorem dX6_link_22 : decode cX6_link 22 = .ok (.invokevirtual 92, 3) := by decide +kernel
theorem dX6_link_25 : decode cX6_link 25 = .ok (.aload_n 0, 1) := by decide +kernel
theorem dX6_link_26 : decode cX6_link 26 = .ok (.getfield 7, 3) := by decide +kernel
theorem dX6_link_29 : decode cX6_link 29 = .ok (.bipush 17, 2) := by decide +kernel
theorem dX6_link_31 : decode cX6_link 31 = .ok (.iconst 4, 1) := by decide +kernel
theorem dX6_link_32 : decode cX6_link 32 = .ok (.iload_n 1, 1) := by decide +kernel
theorem dX6_link_33 : decode cX6_link 33 = .ok (.imul, 1) := by decide +kernel
theorem dX6_link_34 : decode cX6_link 34 = .ok (.iadd, 1) := by decide +kernel
theorem dX6_link_35 : decode cX6_link 35 = .ok (.iload_n 2, 1) := by decide +kernel
theorem dX6_link_36 : decode cX6_link 36 = .ok (.iadd, 1) := by decide +kernel
theorem dX6_link_37 : decode cX6_link 37 = .ok (.iaload, 1) := by decide +kernel
theorem dX6_link_38 : decode cX6_link 38 = .ok (.istore 4, 2) := by decide +kernel
theorem dX6_link_40 : decode cX6_link 40 = .ok (.aload_n 0, 1) := by decide +kernel
theorem dX6_link_41 : decode cX6_link 41 = .ok (.getfield 7, 3) := by decide +kernel
theorem dX6_link_44 : decode cX6_link 44 = .ok (.bipush 17, 2) := by decide +kernel
theorem dX6_link_46 : decode cX6_link 46 = .ok (.iconst 4, 1) := by decide +kernel
theorem dX6_link_47 : decode cX6_link 47 = .ok (.iload_n 1, 1) := by decide +kernel
theorem dX6_link_48 : decode cX6_link 48 = .ok (.imul, 1) := by decide +kernel
theorem dX6_link_49 : decode cX6_link 49 = .ok (.iadd, 1) := by decide +kernel
theorem dX6_link_50 : decode cX6_link 50 = .ok (.iload_n 2, 1) := by decide +kernel
theorem dX6_link_51 : decode cX6_link 51 = .ok (.iadd, 1) := by decide +kernel
theorem dX6_link_52 : decode cX6_link 52 = .ok (.iload_n 3, 1) := by decide +kernel
theorem dX6_link_53 : decode cX6_link 53 = .ok (.ifCond .eq 7, 3) := by decide +kernel
theorem dX6_link_56 : decode cX6_link 56 = .ok (.iconst 1, 1) := by decide +kernel
theorem dX6_link_57 : decode cX6_link 57 = .ok (.goto 4, 3) := by decide +kernel
theorem dX6_link_60 : decode cX6_link 60 = .ok (.iconst 0, 1) := by decide +kernel
theorem dX6_link_61 : decode cX6_link 61 = .ok (.iastore, 1) := by decide +kernel
theorem dX6_link_62 : decode cX6_link 62 = .ok (.iload 4, 2) := by decide +kernel
theorem dX6_link_64 : decode cX6_link 64 = .ok (.ireturn, 1) := by decide +kernel
set_option maxRecDepth 20000 in
theorem ggX6_move_X6_isPerson : GoodIn wsX6_move wsX6_isPerson := goodIn_r _ [6, 7, 8, 5, 9] (by decide +kernel) (by decide +kernel)
set_option maxRecDepth 20000 in
theorem gX6_move_X6_isPerson : GoodIn wsX6_move (va_wsS RX6 51 yX6_isPerson wsX6_isPerson) := goodIn_app (goodIn_of _ (by decide +kernel)) ggX6_move_X6_isPerson
set_option maxRecDepth 20000 in
theorem ggX6_move_X6_isGate : GoodIn wsX6_move wsX6_isGate := goodIn_r _ [12, 7, 8, 5, 9] (by decide +kernel) (by decide +kernel)
set_option maxRecDepth 20000 in
theorem gX6_move_X6_isGate : GoodIn wsX6_move (va_wsS RX6 98 yX6_isGate wsX6_isGate) := goodIn_app (goodIn_of _ (by decide +kernel)) ggX6_move_X6_isGate
set_option maxRecDepth 20000 in
theorem ggX6_move_X6_records : GoodIn wsX6_move wsX6_records := goodIn_r _ [16, 17, 18, 2, 19, 20, 21, 22, 23, 24, 25, 26, 27, 28, 29, 30, 31, 32, 33, 34, 35, 36] (by decide +kernel) (by decide +kernel)
set_option maxRecDepth 20000 in
theorem gX6_move_X6_records : GoodIn wsX6_move (wsV RX6 92 RX6 yX6_records wsX6_records) := goodIn_app (goodIn_of _ (by decide +kernel)) ggX6_move_X6_records
theorem dX6_move_0 : decode cX6_move 0 = .ok (.aload_n 0, 1) := by decide +kernel
theorem dX6_move_1 : decode cX6_move 1 = .ok (.iconst 0, 1) := by decide +kernel
theorem dX6_move_2 : decode cX6_move 2 = .ok (.putfield 43, 3) := by decide +kernel
theorem dX6_move_5 : decode cX6_move 5 = .ok (.iload_n 2, 1) := by decide +kernel
theorem dX6_move_6 : decode cX6_move 6 = .ok (.invokestatic 51, 3) := by decide +kernel
theorem dX6_move_9 : decode cX6_move 9 = .ok (.ifCond .eq 10, 3) := by decide +kernel
theorem dX6_move_12 : decode cX6_move 12 = .ok (.iload_n 3, 1) := by decide +kernel
theorem dX6_move_13 : decode cX6_move 13 = .ok (.invokestatic 98, 3) := by decide +kernel
theorem dX6_move_16 : decode cX6_move 16 = .ok (.ifCond .ne 5, 3) := by decide +kernel
theorem dX6_move_19 : decode cX6_move 19 = .ok (.iconst (-1), 1) := by decide +kernel
theorem dX6_move_20 : decode cX6_move 20 = .ok (.ireturn, 1) := by decide +kernel
theorem dX6_move_21 : decode cX6_move 21 = .ok (.aload_n 0, 1) := by decide +kernel
theorem dX6_move_22 : decode cX6_move 22 = .ok (.invokevirtual 92, 3) := by decide +kernel
theorem dX6_move_25 : decode cX6_move 25 = .ok (.iconst 1, 1) := by decide +kernel
