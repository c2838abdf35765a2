theorem dX2_takeGreatest_26 : decode cX2_takeGreatest 26 = .ok (.iconst 0, 1) := by decide +kernel
theorem dX2_takeGreatest_27 : decode cX2_takeGreatest 27 = .ok (.istore_n 2, 1) := by decide +kernel
theorem dX2_takeGreatest_28 : decode cX2_takeGreatest 28 = .ok (.iload_n 2, 1) := by decide +kernel
theorem dX2_takeGreatest_29 : decode cX2_takeGreatest 29 = .ok (.bipush 8, 2) := by decide +kernel
theorem dX2_takeGreatest_31 : decode cX2_takeGreatest 31 = .ok (.if_icmp .ge 44, 3) := by decide +kernel
theorem dX2_takeGreatest_34 : decode cX2_takeGreatest 34 = .ok (.iconst 0, 1) := by decide +kernel
theorem dX2_takeGreatest_35 : decode cX2_takeGreatest 35 = .ok (.istore_n 3, 1) := by decide +kernel
theorem dX2_takeGreatest_36 : decode cX2_takeGreatest 36 = .ok (.iload_n 3, 1) := by decide +kernel
theorem dX2_takeGreatest_37 : decode cX2_takeGreatest 37 = .ok (.bipush 8, 2) := by decide +kernel
theorem dX2_takeGreatest_39 : decode cX2_takeGreatest 39 = .ok (.if_icmp .ge 30, 3) := by decide +kernel
theorem dX2_takeGreatest_42 : decode cX2_takeGreatest 42 = .ok (.aload_n 1, 1) := by decide +kernel
theorem dX2_takeGreatest_43 : decode cX2_takeGreatest 43 = .ok (.iload_n 2, 1) := by decide +kernel
theorem dX2_takeGreatest_44 : decode cX2_takeGreatest 44 = .ok (.iload_n 3, 1) := by decide +kernel
theorem dX2_takeGreatest_45 : decode cX2_takeGreatest 45 = .ok (.invokevirtual 34, 3) := by decide +kernel
theorem dX2_takeGreatest_48 : decode cX2_takeGreatest 48 = .ok (.ifCond .eq 15, 3) := by decide +kernel
theorem dX2_takeGreatest_51 : decode cX2_takeGreatest 51 = .ok (.aload_n 0, 1) := by decide +kernel
theorem dX2_takeGreatest_52 : decode cX2_takeGreatest 52 = .ok (.getfield 9, 3) := by decide +kernel
theorem dX2_takeGreatest_55 : decode cX2_takeGreatest 55 = .ok (.iload_n 2, 1) := by decide +kernel
theorem dX2_takeGreatest_56 : decode cX2_takeGreatest 56 = .ok (.dup2, 1) := by decide +kernel
theorem dX2_takeGreatest_57 : decode cX2_takeGreatest 57 = .ok (.iaload, 1) := by decide +kernel
theorem dX2_takeGreatest_58 : decode cX2_takeGreatest 58 = .ok (.iconst 1, 1) := by decide +kernel
theorem dX2_takeGreatest_59 : decode cX2_takeGreatest 59 = .ok (.iload_n 3, 1) := by decide +kernel
theorem dX2_takeGreatest_60 : decode cX2_takeGreatest 60 = .ok (.ishl, 1) := by decide +kernel
theorem dX2_takeGreatest_61 : decode cX2_takeGreatest 61 = .ok (.ior, 1) := by decide +kernel
theorem dX2_takeGreatest_62 : decode cX2_takeGreatest 62 = .ok (.iastore, 1) := by decide +kernel
theorem dX2_takeGreatest_63 : decode cX2_takeGreatest 63 = .ok (.iinc 3 1, 3) := by decide +kernel
theorem dX2_takeGreatest_66 : decode cX2_takeGreatest 66 = .ok (.goto (-30), 3) := by decide +kernel
theorem dX2_takeGreatest_69 : decode cX2_takeGreatest 69 = .ok (.iinc 2 1, 3) := by decide +kernel
theorem dX2_takeGreatest_72 : decode cX2_takeGreatest 72 = .ok (.goto (-44), 3) := by decide +kernel
theorem dX2_takeGreatest_75 : decode cX2_takeGreatest 75 = .ok (.iconst 0, 1) := by decide +kernel
theorem dX2_takeGreatest_76 : decode cX2_takeGreatest 76 = .ok (.istore_n 2, 1) := by decide +kernel
theorem dX2_takeGreatest_77 : decode cX2_takeGreatest 77 = .ok (.iload_n 2, 1) := by decide +kernel
theorem dX2_takeGreatest_78 : decode cX2_takeGreatest 78 = .ok (.bipush 8, 2) := by decide +kernel
theorem dX2_takeGreatest_80 : decode cX2_takeGreatest 80 = .ok (.if_icmp .ge 20, 3) := by decide +kernel
theorem dX2_takeGreatest_83 : decode cX2_takeGreatest 83 = .ok (.aload_n 0, 1) := by decide +kernel
theorem dX2_takeGreatest_84 : decode cX2_takeGreatest 84 = .ok (.iconst 0, 1) := by decide +kernel
theorem dX2_takeGreatest_85 : decode cX2_takeGreatest 85 = .ok (.sipush 255, 3) := by decide +kernel
theorem dX2_takeGreatest_88 : decode cX2_takeGreatest 88 = .ok (.invokevirtual 40, 3) := by decide +kernel
theorem dX2_takeGreatest_91 : decode cX2_takeGreatest 91 = .ok (.ifCond .eq 9, 3) := by decide +kernel
theorem dX2_takeGreatest_94 : decode cX2_takeGreatest 94 = .ok (.iinc 2 1, 3) := by decide +kernel
theorem dX2_takeGreatest_97 : decode cX2_takeGreatest 97 = .ok (.goto (-20), 3) := by decide +kernel
theorem dX2_takeGreatest_100 : decode cX2_takeGreatest 100 = .ok (.return_, 1) := by decide +kernel
set_option maxRecDepth 20000 in
theorem ggX2_takeFirst_X2_takeGreatest : GoodIn wsX2_takeFirst wsX2_takeGreatest := goodIn_r _ [7, 2, 1, 8, 9, 10, 11, 12, 13, 14, 15, 16, 17, 18, 19, 20, 21, 22, 23, 24, 25, 26, 27, 28, 29, 30, 31, 32, 33, 34, 35, 36, 37, 38, 39, 40, 6, 41, 42, 43, 44, 45, 46, 47, 48, 49, 50, 51, 52, 53, 54, 55, 56, 57, 62, 63, 64, 65, 66, 67] (by decide +kernel) (by decide +kernel)
set_option maxRecDepth 20000 in
theorem gX2_takeFirst_X2_takeGreatest : GoodIn wsX2_takeFirst (wsV RX2 43 RX2 yX2_takeGreatest wsX2_takeGreatest) := goodIn_app (goodIn_of _ (by decide +kernel)) ggX2_takeFirst_X2_takeGreatest
set_option maxRecDepth 20000 in
theorem ggX2_takeFirst_X5_hasBit : GoodIn wsX2_takeFirst wsX5_hasBit := goodIn_r _ [25] (by decide +kernel) (by decide +kernel)
set_option maxRecDepth 20000 in
theorem gX2_takeFirst_X5_hasBit_n47 : GoodIn wsX2_takeFirst (wsX5_hasBit) := ggX2_takeFirst_X5_hasBit
set_option maxRecDepth 20000 in
theorem ggX2_takeFirst_X2_canTake : GoodIn wsX2_takeFirst wsX2_canTake := goodIn_r _ [61, 1, 8, 52, 24, 53, 54, 55, 56, 6, 57, 38, 39, 40, 41, 42, 43, 44, 45, 46, 47, 2, 48, 49, 50, 51, 23, 25, 62, 63, 64, 65, 66] (by decide +kernel) (by decide +kernel)
set_option maxRecDepth 20000 in
theorem gX2_takeFirst_X2_canTake : GoodIn wsX2_takeFirst (wsV RX2 50 RX2 yX2_canTake wsX2_canTake) := goodIn_app (goodIn_of _ (by decide +kernel)) ggX2_takeFirst_X2_canTake
set_option maxRecDepth 20000 in
theorem ggX2_takeFirst_X5_isPerson : GoodIn wsX2_takeFirst wsX5_isPerson := goodIn_r _ [53] (by decide +kernel) (by decide +kernel)
set_option maxRecDepth 20000 in
theorem gX2_takeFirst_X5_isPerson_n54 : GoodIn wsX2_takeFirst (wsX5_isPerson) := ggX2_takeFirst_X5_isPerson
theorem dX2_takeFirst_0 : decode cX2_takeFirst 0 = .ok (.aload_n 0, 1) := by decide +kernel
theorem dX2_takeFirst_1 : decode cX2_takeFirst 1 = .ok (.aload_n 1, 1) := by decide +kernel
theorem dX2_takeFirst_2 : decode cX2_takeFirst 2 = .ok (.invokevirtual 43, 3) := by decide +kernel
theorem dX2_takeFirst_5 : decode cX2_takeFirst 5 = .ok (.sipush 255, 3) := by decide +kernel
theorem dX2_takeFirst_8 : decode cX2_takeFirst 8 = .ok (.istore_n 2, 1) := by decide +kernel
theorem dX2_takeFirst_9 : decode cX2_takeFirst 9 = .ok (.iconst 0, 1) := by decide +kernel
theorem dX2_takeFirst_10 : decode cX2_takeFirst 10 = .ok (.istore_n 3, 1) := by decide +kernel
theorem dX2_takeFirst_11 : decode cX2_takeFirst 11 = .ok (.iload_n 3, 1) := by decide +kernel
theorem dX2_takeFirst_12 : decode cX2_takeFirst 12 = .ok (.bipush 8, 2) := by decide +kernel
theorem dX2_takeFirst_14 : decode cX2_takeFirst 14 = .ok (.if_icmp .ge 103, 3) := by decide +kernel
theorem dX2_takeFirst_17 : decode cX2_takeFirst 17 = .ok (.iconst 0, 1) := by decide +kernel
theorem dX2_takeFirst_18 : decode cX2_takeFirst 18 = .ok (.istore 4, 2) := by decide +kernel
theorem dX2_takeFirst_20 : decode cX2_takeFirst 20 = .ok (.iconst 0, 1) := by decide +kernel
theorem dX2_takeFirst_21 : decode cX2_takeFirst 21 = .ok (.istore 5, 2) := by decide +kernel
theorem dX2_takeFirst_23 : decode cX2_takeFirst 23 = .ok (.iload 5, 2) := by decide +kernel
theorem dX2_takeFirst_25 : decode cX2_takeFirst 25 = .ok (.bipush 8, 2) := by decide +kernel
theorem dX2_takeFirst_27 : decode cX2_takeFirst 27 = .ok (.if_icmp .ge 59, 3) := by decide +kernel
theorem dX2_takeFirst_30 : decode cX2_takeFirst 30 = .ok (.iload 5, 2) := by decide +kernel
theorem dX2_takeFirst_32 : decode cX2_takeFirst 32 = .ok (.aload_n 0, 1) := by decide +kernel
theorem dX2_takeFirst_33 : decode cX2_takeFirst 33 = .ok (.getfield 15, 3) := by decide +kernel
theorem dX2_takeFirst_36 : decode cX2_takeFirst 36 = .ok (.iload_n 3, 1) := by decide +kernel
theorem dX2_takeFirst_37 : decode cX2_takeFirst 37 = .ok (.iaload, 1) := by decide +kernel
theorem dX2_takeFirst_38 : decode cX2_takeFirst 38 = .ok (.if_icmp .eq 48, 3) := by decide +kernel
theorem dX2_takeFirst_41 : decode cX2_takeFirst 41 = .ok (.iload 4, 2) := by decide +kernel
theorem dX2_takeFirst_43 : decode cX2_takeFirst 43 = .ok (.ifCond .ne 43, 3) := by decide +kernel
theorem dX2_takeFirst_46 : decode cX2_takeFirst 46 = .ok (.aload_n 0, 1) := by decide +kernel
theorem dX2_takeFirst_47 : decode cX2_takeFirst 47 = .ok (.getfield 9, 3) := by decide +kernel
theorem dX2_takeFirst_50 : decode cX2_takeFirst 50 = .ok (.iload_n 3, 1) := by decide +kernel
theorem dX2_takeFirst_51 : decode cX2_takeFirst 51 = .ok (.iaload, 1) := by decide +kernel
theorem dX2_takeFirst_52 : decode cX2_takeFirst 52 = .ok (.iload_n 2, 1) := by decide +kernel
theorem dX2_takeFirst_53 : decode cX2_takeFirst 53 = .ok (.iand, 1) := by decide +kernel
theorem dX2_takeFirst_54 : decode cX2_takeFirst 54 = .ok (.iload 5, 2) := by decide +kernel
theorem dX2_takeFirst_56 : decode cX2_takeFirst 56 = .ok (.invokestatic 47, 3) := by decide +kernel
theorem dX2_takeFirst_59 : decode cX2_takeFirst 59 = .ok (.ifCond .eq 18, 3) := by decide +kernel
theorem dX2_takeFirst_62 : decode cX2_takeFirst 62 = .ok (.aload_n 0, 1) := by decide +kernel
theorem dX2_takeFirst_63 : decode cX2_takeFirst 63 = .ok (.iload_n 3, 1) := by decide +kernel
theorem dX2_takeFirst_64 : decode cX2_takeFirst 64 = .ok (.iload 5, 2) := by decide +kernel
theorem dX2_takeFirst_66 : decode cX2_takeFirst 66 = .ok (.iload_n 2, 1) := by decide +kernel
theorem dX2_takeFirst_67 : decode cX2_takeFirst 67 = .ok (.invokevirtual 50, 3) := by decide +kernel
theorem dX2_takeFirst_70 : decode cX2_takeFirst 70 = .ok (.ifCond .eq 7, 3) := by decide +kernel
theorem dX2_takeFirst_73 : decode cX2_takeFirst 73 = .ok (.iconst 1, 1) := by decide +kernel
theorem dX2_takeFirst_74 : decode cX2_takeFirst 74 = .ok (.goto 4, 3) := by decide +kernel
theorem dX2_takeFirst_77 : decode cX2_takeFirst 77 = .ok (.iconst 0, 1) := by decide +kernel
theorem dX2_takeFirst_78 : decode cX2_takeFirst 78 = .ok (.istore 4, 2) := by decide +kernel
theorem dX2_takeFirst_80 : decode cX2_takeFirst 80 = .ok (.iinc 5 1, 3) := by decide +kernel
theorem dX2_takeFirst_83 : decode cX2_takeFirst 83 = .ok (.goto (-60), 3) := by decide +kernel
theorem dX2_takeFirst_86 : decode cX2_takeFirst 86 = .ok (.aload_n 0, 1) := by decide +kernel
theorem dX2_takeFirst_87 : decode cX2_takeFirst 87 = .ok (.getfield 15, 3) := by decide +kernel
theorem dX2_takeFirst_90 : decode cX2_takeFirst 90 = .ok (.iload_n 3, 1) := by decide +kernel
theorem dX2_takeFirst_91 : decode cX2_takeFirst 91 = .ok (.iaload, 1) := by decide +kernel
theorem dX2_takeFirst_92 : decode cX2_takeFirst 92 = .ok (.invokestatic 54, 3) := by decide +kernel
theorem dX2_takeFirst_95 : decode cX2_takeFirst 95 = .ok (.ifCond .eq 16, 3) := by decide +kernel
theorem dX2_takeFirst_98 : decode cX2_takeFirst 98 = .ok (.iload_n 2, 1) := by decide +kernel
theorem dX2_takeFirst_99 : decode cX2_takeFirst 99 = .ok (.iconst 1, 1) := by decide +kernel
theorem dX2_takeFirst_100 : decode cX2_takeFirst 100 = .ok (.aload_n 0, 1) := by decide +kernel
theorem dX2_takeFirst_101 : decode cX2_takeFirst 101 = .ok (.getfield 15, 3) := by decide +kernel
theorem dX2_takeFirst_104 : decode cX2_takeFirst 104 = .ok (.iload_n 3, 1) := by decide +kernel
theorem dX2_takeFirst_105 : decode cX2_takeFirst 105 = .ok (.iaload, 1) := by decide +kernel
theorem dX2_takeFirst_106 : decode cX2_takeFirst 106 = .ok (.ishl, 1) := by decide +kernel
theorem dX2_takeFirst_107 : decode cX2_takeFirst 107 = .ok (.iconst (-1), 1) := by decide +kernel
theorem dX2_takeFirst_108 : decode cX2_takeFirst 108 = .ok (.ixor, 1) := by decide +kernel
theorem dX2_takeFirst_109 : decode cX2_takeFirst 109 = .ok (.iand, 1) := by decide +kernel
theorem dX2_takeFirst_110 : decode cX2_takeFirst 110 = .ok (.istore_n 2, 1) := by decide +kernel
theorem dX2_takeFirst_111 : decode cX2_takeFirst 111 = .ok (.iinc 3 1, 3) := by decide +kernel
theorem dX2_takeFirst_114 : decode cX2_takeFirst 114 = .ok (.goto (-103), 3) := by decide +kernel
theorem dX2_takeFirst_117 : decode cX2_takeFirst 117 = .ok (.return_, 1) := by decide +kernel
set_option maxRecDepth 20000 in
theorem ggX2_leftsWhoMayBeLeftOut_X2_findFreeRight : GoodIn wsX2_leftsWhoMayBeLeftOut wsX2_findFreeRight := goodIn_r _ [7, 1, 2, 8, 9, 10, 11, 12, 6, 13, 14, 15, 16, 17, 18, 19, 20, 21, 22] (by decide +kernel) (by decide +kernel)
set_option maxRecDepth 20000 in
theorem gX2_leftsWhoMayBeLeftOut_X2_findFreeRight : GoodIn wsX2_leftsWhoMayBeLeftOut (wsV RX2 58 RX2 yX2_findFreeRight wsX2_findFreeRight) := goodIn_app (goodIn_of _ (by decide +kernel)) ggX2_leftsWhoMayBeLeftOut_X2_findFreeRight
set_option maxRecDepth 20000 in
theorem ggX2_leftsWhoMayBeLeftOut_X5_hasBit : GoodIn wsX2_leftsWhoMayBeLeftOut wsX5_hasBit := goodIn_r _ [17] (by decide +kernel) (by decide +kernel)
set_option maxRecDepth 20000 in
theorem gX2_leftsWhoMayBeLeftOut_X5_hasBit_n47 : GoodIn wsX2_leftsWhoMayBeLeftOut (wsX5_hasBit) := ggX2_leftsWhoMayBeLeftOut_X5_hasBit
theorem dX2_leftsWhoMayBeLeftOut_0 : decode cX2_leftsWhoMayBeLeftOut 0 = .ok (.aload_n 0, 1) := by decide +kernel
theorem dX2_leftsWhoMayBeLeftOut_1 : decode cX2_leftsWhoMayBeLeftOut 1 = .ok (.iconst 0, 1) := by decide +kernel
theorem dX2_leftsWhoMayBeLeftOut_2 : decode cX2_leftsWhoMayBeLeftOut 2 = .ok (.sipush 255, 3) := by decide +kernel
theorem dX2_leftsWhoMayBeLeftOut_5 : decode cX2_leftsWhoMayBeLeftOut 5 = .ok (.invokevirtual 58, 3) := by decide +kernel
theorem dX2_leftsWhoMayBeLeftOut_8 : decode cX2_leftsWhoMayBeLeftOut 8 = .ok (.pop, 1) := by decide +kernel
theorem dX2_leftsWhoMayBeLeftOut_9 : decode cX2_leftsWhoMayBeLeftOut 9 = .ok (.iconst 0, 1) := by decide +kernel
theorem dX2_leftsWhoMayBeLeftOut_10 : decode cX2_leftsWhoMayBeLeftOut 10 = .ok (.istore_n 1, 1) := by decide +kernel
theorem dX2_leftsWhoMayBeLeftOut_11 : decode cX2_leftsWhoMayBeLeftOut 11 = .ok (.iconst 0, 1) := by decide +kernel
theorem dX2_leftsWhoMayBeLeftOut_12 : decode cX2_leftsWhoMayBeLeftOut 12 = .ok (.istore_n 2, 1) := by decide +kernel
theorem dX2_leftsWhoMayBeLeftOut_13 : decode cX2_leftsWhoMayBeLeftOut 13 = .ok (.iload_n 2, 1) := by decide +kernel
theorem dX2_leftsWhoMayBeLeftOut_14 : decode cX2_leftsWhoMayBeLeftOut 14 = .ok (.bipush 8, 2) := by decide +kernel
theorem dX2_leftsWhoMayBeLeftOut_16 : decode cX2_leftsWhoMayBeLeftOut 16 = .ok (.if_icmp .ge 35, 3) := by decide +kernel
theorem dX2_leftsWhoMayBeLeftOut_19 : decode cX2_leftsWhoMayBeLeftOut 19 = .ok (.aload_n 0, 1) := by decide +kernel
theorem dX2_leftsWhoMayBeLeftOut_20 : decode cX2_leftsWhoMayBeLeftOut 20 = .ok (.getfield 62, 3) := by decide +kernel
theorem dX2_leftsWhoMayBeLeftOut_23 : decode cX2_leftsWhoMayBeLeftOut 23 = .ok (.iload_n 2, 1) := by decide +kernel
theorem dX2_leftsWhoMayBeLeftOut_24 : decode cX2_leftsWhoMayBeLeftOut 24 = .ok (.invokestatic 47, 3) := by decide +kernel
theorem dX2_leftsWhoMayBeLeftOut_27 : decode cX2_leftsWhoMayBeLeftOut 27 = .ok (.ifCond .eq 18, 3) := by decide +kernel
theorem dX2_leftsWhoMayBeLeftOut_30 : decode cX2_leftsWhoMayBeLeftOut 30 = .ok (.aload_n 0, 1) := by decide +kernel
theorem dX2_leftsWhoMayBeLeftOut_31 : decode cX2_leftsWhoMayBeLeftOut 31 = .ok (.getfield 9, 3) := by decide +kernel
theorem dX2_leftsWhoMayBeLeftOut_34 : decode cX2_leftsWhoMayBeLeftOut 34 = .ok (.iload_n 2, 1) := by decide +kernel
theorem dX2_leftsWhoMayBeLeftOut_35 : decode cX2_leftsWhoMayBeLeftOut 35 = .ok (.iaload, 1) := by decide +kernel
theorem dX2_leftsWhoMayBeLeftOut_36 : decode cX2_leftsWhoMayBeLeftOut 36 = .ok (.ifCond .eq 9, 3) := by decide +kernel
theorem dX2_leftsWhoMayBeLeftOut_39 : decode cX2_leftsWhoMayBeLeftOut 39 = .ok (.iload_n 1, 1) := by decide +kernel
theorem dX2_leftsWhoMayBeLeftOut_40 : decode cX2_leftsWhoMayBeLeftOut 40 = .ok (.iconst 1, 1) := by decide +kernel
theorem dX2_leftsWhoMayBeLeftOut_41 : decode cX2_leftsWhoMayBeLeftOut 41 = .ok (.iload_n 2, 1) := by decide +kernel
theorem dX2_leftsWhoMayBeLeftOut_42 : decode cX2_leftsWhoMayBeLeftOut 42 = .ok (.ishl, 1) := by decide +kernel
theorem dX2_leftsWhoMayBeLeftOut_43 : decode cX2_leftsWhoMayBeLeftOut 43 = .ok (.ior, 1) := by decide +kernel
theorem dX2_leftsWhoMayBeLeftOut_44 : decode cX2_leftsWhoMayBeLeftOut 44 = .ok (.istore_n 1, 1) := by decide +kernel
theorem dX2_leftsWhoMayBeLeftOut_45 : decode cX2_leftsWhoMayBeLeftOut 45 = .ok (.iinc 2 1, 3) := by decide +kernel
theorem dX2_leftsWhoMayBeLeftOut_48 : decode cX2_leftsWhoMayBeLeftOut 48 = .ok (.goto (-35), 3) := by decide +kernel
theorem dX2_leftsWhoMayBeLeftOut_51 : decode cX2_leftsWhoMayBeLeftOut 51 = .ok (.iload_n 1, 1) := by decide +kernel
theorem dX2_leftsWhoMayBeLeftOut_52 : decode cX2_leftsWhoMayBeLeftOut 52 = .ok (.ireturn, 1) := by decide +kernel
set_option maxRecDepth 20000 in
theorem ggX2_canTake_X5_isPerson : GoodIn wsX2_canTake wsX5_isPerson := goodIn_r _ [5] (by decide +kernel) (by decide +kernel)
set_option maxRecDepth 20000 in
theorem gX2_canTake_X5_isPerson_n54 : GoodIn wsX2_canTake (wsX5_isPerson) := ggX2_canTake_X5_isPerson
set_option maxRecDepth 20000 in
theorem ggX2_canTake_X2_join : GoodIn wsX2_canTake wsX2_join := goodIn_r _ [10, 1, 2, 28, 29, 30, 31, 32] (by decide +kernel) (by decide +kernel)
set_option maxRecDepth 20000 in
theorem gX2_canTake_X2_join : GoodIn wsX2_canTake (wsV RX2 66 RX2 yX2_join wsX2_join) := goodIn_app (goodIn_of _ (by decide +kernel)) ggX2_canTake_X2_join
set_option maxRecDepth 20000 in
theorem ggX2_canTake_X2_growsByOne : GoodIn wsX2_canTake wsX2_growsByOne := goodIn_r _ [14, 15, 1, 16, 17, 18, 9, 19, 20, 21, 2, 22, 23, 24, 25, 26, 4, 27, 3, 5, 6, 7, 8, 10, 28, 29, 30, 31, 32] (by decide +kernel) (by decide +kernel)
set_option maxRecDepth 20000 in
theorem gX2_canTake_X2_growsByOne : GoodIn wsX2_canTake (wsV RX2 40 RX2 yX2_growsByOne wsX2_growsByOne) := goodIn_app (goodIn_of _ (by decide +kernel)) ggX2_canTake_X2_growsByOne
theorem dX2_canTake_0 : decode cX2_canTake 0 = .ok (.aload_n 0, 1) := by decide +kernel
theorem dX2_canTake_1 : decode cX2_canTake 1 = .ok (.getfield 15, 3) := by decide +kernel
theorem dX2_canTake_4 : decode cX2_canTake 4 = .ok (.iload_n 1, 1) := by decide +kernel
theorem dX2_canTake_5 : decode cX2_canTake 5 = .ok (.iaload, 1) := by decide +kernel
theorem dX2_canTake_6 : decode cX2_canTake 6 = .ok (.istore 4, 2) := by decide +kernel
theorem dX2_canTake_8 : decode cX2_canTake 8 = .ok (.aload_n 0, 1) := by decide +kernel
theorem dX2_canTake_9 : decode cX2_canTake 9 = .ok (.getfield 18, 3) := by decide +kernel
theorem dX2_canTake_12 : decode cX2_canTake 12 = .ok (.iload_n 2, 1) := by decide +kernel
theorem dX2_canTake_13 : decode cX2_canTake 13 = .ok (.iaload, 1) := by decide +kernel
theorem dX2_canTake_14 : decode cX2_canTake 14 = .ok (.istore 5, 2) := by decide +kernel
theorem dX2_canTake_16 : decode cX2_canTake 16 = .ok (.iload 4, 2) := by decide +kernel
theorem dX2_canTake_18 : decode cX2_canTake 18 = .ok (.invokestatic 54, 3) := by decide +kernel
theorem dX2_canTake_21 : decode cX2_canTake 21 = .ok (.ifCond .eq 12, 3) := by decide +kernel
theorem dX2_canTake_24 : decode cX2_canTake 24 = .ok (.aload_n 0, 1) := by decide +kernel
theorem dX2_canTake_25 : decode cX2_canTake 25 = .ok (.getfield 18, 3) := by decide +kernel
theorem dX2_canTake_28 : decode cX2_canTake 28 = .ok (.iload 4, 2) := by decide +kernel
theorem dX2_canTake_30 : decode cX2_canTake 30 = .ok (.bipush (-5), 2) := by decide +kernel
theorem dX2_canTake_32 : decode cX2_canTake 32 = .ok (.iastore, 1) := by decide +kernel
theorem dX2_canTake_33 : decode cX2_canTake 33 = .ok (.iload 5, 2) := by decide +kernel
theorem dX2_canTake_35 : decode cX2_canTake 35 = .ok (.invokestatic 54, 3) := by decide +kernel
theorem dX2_canTake_38 : decode cX2_canTake 38 = .ok (.ifCond .eq 12, 3) := by decide +kernel
theorem dX2_canTake_41 : decode cX2_canTake 41 = .ok (.aload_n 0, 1) := by decide +kernel
theorem dX2_canTake_42 : decode cX2_canTake 42 = .ok (.getfield 15, 3) := by decide +kernel
theorem dX2_canTake_45 : decode cX2_canTake 45 = .ok (.iload 5, 2) := by decide +kernel
theorem dX2_canTake_47 : decode cX2_canTake 47 = .ok (.bipush (-5), 2) := by decide +kernel
theorem dX2_canTake_49 : decode cX2_canTake 49 = .ok (.iastore, 1) := by decide +kernel
theorem dX2_canTake_50 : decode cX2_canTake 50 = .ok (.aload_n 0, 1) := by decide +kernel
theorem dX2_canTake_51 : decode cX2_canTake 51 = .ok (.iload_n 1, 1) := by decide +kernel
theorem dX2_canTake_52 : decode cX2_canTake 52 = .ok (.iload_n 2, 1) := by decide +kernel
theorem dX2_canTake_53 : decode cX2_canTake 53 = .ok (.invokevirtual 66, 3) := by decide +kernel
theorem dX2_canTake_56 : decode cX2_canTake 56 = .ok (.iload 4, 2) := by decide +kernel
theorem dX2_canTake_58 : decode cX2_canTake 58 = .ok (.invokestatic 54, 3) := by decide +kernel
theorem dX2_canTake_61 : decode cX2_canTake 61 = .ok (.ifCond .eq 11, 3) := by decide +kernel
theorem dX2_canTake_64 : decode cX2_canTake 64 = .ok (.iload 5, 2) := by decide +kernel
theorem dX2_canTake_66 : decode cX2_canTake 66 = .ok (.invokestatic 54, 3) := by decide +kernel
theorem dX2_canTake_69 : decode cX2_canTake 69 = .ok (.ifCond .ne 5, 3) := by decide +kernel
theorem dX2_canTake_72 : decode cX2_canTake 72 = .ok (.iconst 1, 1) := by decide +kernel
theorem dX2_canTake_73 : decode cX2_canTake 73 = .ok (.ireturn, 1) := by decide +kernel
theorem dX2_canTake_74 : decode cX2_canTake 74 = .ok (.aload_n 0, 1) := by decide +kernel
theorem dX2_canTake_75 : decode cX2_canTake 75 = .ok (.iload_n 1, 1) := by decide +kernel
theorem dX2_canTake_76 : decode cX2_canTake 76 = .ok (.iconst 1, 1) := by decide +kernel
theorem dX2_canTake_77 : decode cX2_canTake 77 = .ok (.iadd, 1) := by decide +kernel
theorem dX2_canTake_78 : decode cX2_canTake 78 = .ok (.iload_n 3, 1) := by decide +kernel
theorem dX2_canTake_79 : decode cX2_canTake 79 = .ok (.iconst 1, 1) := by decide +kernel
theorem dX2_canTake_80 : decode cX2_canTake 80 = .ok (.iload_n 2, 1) := by decide +kernel
theorem dX2_canTake_81 : decode cX2_canTake 81 = .ok (.ishl, 1) := by decide +kernel
theorem dX2_canTake_82 : decode cX2_canTake 82 = .ok (.iconst (-1), 1) := by decide +kernel
theorem dX2_canTake_83 : decode cX2_canTake 83 = .ok (.ixor, 1) := by decide +kernel
theorem dX2_canTake_84 : decode cX2_canTake 84 = .ok (.iand, 1) := by decide +kernel
theorem dX2_canTake_85 : decode cX2_canTake 85 = .ok (.invokevirtual 40, 3) := by decide +kernel
theorem dX2_canTake_88 : decode cX2_canTake 88 = .ok (.ifCond .eq 5, 3) := by decide +kernel
theorem dX2_canTake_91 : decode cX2_canTake 91 = .ok (.iconst 1, 1) := by decide +kernel
theorem dX2_canTake_92 : decode cX2_canTake 92 = .ok (.ireturn, 1) := by decide +kernel
theorem dX2_canTake_93 : decode cX2_canTake 93 = .ok (.aload_n 0, 1) := by decide +kernel
theorem dX2_canTake_94 : decode cX2_canTake 94 = .ok (.iload_n 1, 1) := by decide +kernel
theorem dX2_canTake_95 : decode cX2_canTake 95 = .ok (.iload 4, 2) := by decide +kernel
theorem dX2_canTake_97 : decode cX2_canTake 97 = .ok (.invokevirtual 66, 3) := by decide +kernel
theorem dX2_canTake_100 : decode cX2_canTake 100 = .ok (.aload_n 0, 1) := by decide +kernel
theorem dX2_canTake_101 : decode cX2_canTake 101 = .ok (.iload 5, 2) := by decide +kernel
theorem dX2_canTake_103 : decode cX2_canTake 103 = .ok (.iload_n 2, 1) := by decide +kernel
theorem dX2_canTake_104 : decode cX2_canTake 104 = .ok (.invokevirtual 66, 3) := by decide +kernel
theorem dX2_canTake_107 : decode cX2_canTake 107 = .ok (.iconst 0, 1) := by decide +kernel
theorem dX2_canTake_108 : decode cX2_canTake 108 = .ok (.ireturn, 1) := by decide +kernel
theorem dX2_join_0 : decode cX2_join 0 = .ok (.aload_n 0, 1) := by decide +kernel
theorem dX2_join_1 : decode cX2_join 1 = .ok (.getfield 15, 3) := by decide +kernel
theorem dX2_join_4 : decode cX2_join 4 = .ok (.iload_n 1, 1) := by decide +kernel
theorem dX2_join_5 : decode cX2_join 5 = .ok (.iload_n 2, 1) := by decide +kernel
theorem dX2_join_6 : decode cX2_join 6 = .ok (.iastore, 1) := by decide +kernel
theorem dX2_join_7 : decode cX2_join 7 = .ok (.aload_n 0, 1) := by decide +kernel
theorem dX2_join_8 : decode cX2_join 8 = .ok (.getfield 18, 3) := by decide +kernel
theorem dX2_join_11 : decode cX2_join 11 = .ok (.iload_n 2, 1) := by decide +kernel
theorem dX2_join_12 : decode cX2_join 12 = .ok (.iload_n 1, 1) := by decide +kernel
theorem dX2_join_13 : decode cX2_join 13 = .ok (.iastore, 1) := by decide +kernel
theorem dX2_join_14 : decode cX2_join 14 = .ok (.return_, 1) := by decide +kernel
set_option maxRecDepth 20000 in
theorem ggX2_growsByOne_X2_findFreeRight : GoodIn wsX2_growsByOne wsX2_findFreeRight := goodIn_r _ [7, 8, 9, 1, 10, 11, 12, 13, 6, 14, 2, 15, 16, 17, 24, 25, 26, 27, 28] (by decide +kernel) (by decide +kernel)
set_option maxRecDepth 20000 in
theorem gX2_growsByOne_X2_findFreeRight : GoodIn wsX2_growsByOne (wsV RX2 58 RX2 yX2_findFreeRight wsX2_findFreeRight) := goodIn_app (goodIn_of _ (by decide +kernel)) ggX2_growsByOne_X2_findFreeRight
set_option maxRecDepth 20000 in
theorem ggX2_growsByOne_X5_isPerson : GoodIn wsX2_growsByOne wsX5_isPerson := goodIn_r _ [19] (by decide +kernel) (by decide +kernel)
set_option maxRecDepth 20000 in
theorem gX2_growsByOne_X5_isPerson_n54 : GoodIn wsX2_growsByOne (wsX5_isPerson) := ggX2_growsByOne_X5_isPerson
set_option maxRecDepth 20000 in
theorem ggX2_growsByOne_X2_join : GoodIn wsX2_growsByOne wsX2_join := goodIn_r _ [23, 2, 10, 24, 25, 26, 27, 28] (by decide +kernel) (by decide +kernel)
set_option maxRecDepth 20000 in
theorem gX2_growsByOne_X2_join : GoodIn wsX2_growsByOne (wsV RX2 66 RX2 yX2_join wsX2_join) := goodIn_app (goodIn_of _ (by decide +kernel)) ggX2_growsByOne_X2_join
theorem dX2_growsByOne_0 : decode cX2_growsByOne 0 = .ok (.aload_n 0, 1) := by decide +kernel
theorem dX2_growsByOne_1 : decode cX2_growsByOne 1 = .ok (.iload_n 1, 1) := by decide +kernel
theorem dX2_growsByOne_2 : decode cX2_growsByOne 2 = .ok (.iload_n 2, 1) := by decide +kernel
theorem dX2_growsByOne_3 : decode cX2_growsByOne 3 = .ok (.invokevirtual 58, 3) := by decide +kernel
theorem dX2_growsByOne_6 : decode cX2_growsByOne 6 = .ok (.istore_n 3, 1) := by decide +kernel
theorem dX2_growsByOne_7 : decode cX2_growsByOne 7 = .ok (.iload_n 3, 1) := by decide +kernel
theorem dX2_growsByOne_8 : decode cX2_growsByOne 8 = .ok (.bipush (-5), 2) := by decide +kernel
theorem dX2_growsByOne_10 : decode cX2_growsByOne 10 = .ok (.if_icmp .ne 5, 3) := by decide +kernel
theorem dX2_growsByOne_13 : decode cX2_growsByOne 13 = .ok (.iconst 0, 1) := by decide +kernel
theorem dX2_growsByOne_14 : decode cX2_growsByOne 14 = .ok (.ireturn, 1) := by decide +kernel
theorem dX2_growsByOne_15 : decode cX2_growsByOne 15 = .ok (.iconst 0, 1) := by decide +kernel
theorem dX2_growsByOne_16 : decode cX2_growsByOne 16 = .ok (.istore 4, 2) := by decide +kernel
theorem dX2_growsByOne_18 : decode cX2_growsByOne 18 = .ok (.iload 4, 2) := by decide +kernel
theorem dX2_growsByOne_20 : decode cX2_growsByOne 20 = .ok (.bipush 8, 2) := by decide +kernel
theorem dX2_growsByOne_22 : decode cX2_growsByOne 22 = .ok (.if_icmp .ge 53, 3) := by decide +kernel
theorem dX2_growsByOne_25 : decode cX2_growsByOne 25 = .ok (.iload_n 3, 1) := by decide +kernel
theorem dX2_growsByOne_26 : decode cX2_growsByOne 26 = .ok (.invokestatic 54, 3) := by decide +kernel
theorem dX2_growsByOne_29 : decode cX2_growsByOne 29 = .ok (.ifCond .eq 46, 3) := by decide +kernel
theorem dX2_growsByOne_32 : decode cX2_growsByOne 32 = .ok (.aload_n 0, 1) := by decide +kernel
theorem dX2_growsByOne_33 : decode cX2_growsByOne 33 = .ok (.getfield 21, 3) := by decide +kernel
theorem dX2_growsByOne_36 : decode cX2_growsByOne 36 = .ok (.iload_n 3, 1) := by decide +kernel
theorem dX2_growsByOne_37 : decode cX2_growsByOne 37 = .ok (.iaload, 1) := by decide +kernel
theorem dX2_growsByOne_38 : decode cX2_growsByOne 38 = .ok (.istore 5, 2) := by decide +kernel
theorem dX2_growsByOne_40 : decode cX2_growsByOne 40 = .ok (.iload 5, 2) := by decide +kernel
theorem dX2_growsByOne_42 : decode cX2_growsByOne 42 = .ok (.invokestatic 54, 3) := by decide +kernel
theorem dX2_growsByOne_45 : decode cX2_growsByOne 45 = .ok (.ifCond .ne 5, 3) := by decide +kernel
theorem dX2_growsByOne_48 : decode cX2_growsByOne 48 = .ok (.iconst 0, 1) := by decide +kernel
theorem dX2_growsByOne_49 : decode cX2_growsByOne 49 = .ok (.ireturn, 1) := by decide +kernel
theorem dX2_growsByOne_50 : decode cX2_growsByOne 50 = .ok (.aload_n 0, 1) := by decide +kernel
theorem dX2_growsByOne_51 : decode cX2_growsByOne 51 = .ok (.getfield 15, 3) := by decide +kernel
theorem dX2_growsByOne_54 : decode cX2_growsByOne 54 = .ok (.iload 5, 2) := by decide +kernel
theorem dX2_growsByOne_56 : decode cX2_growsByOne 56 = .ok (.iaload, 1) := by decide +kernel
theorem dX2_growsByOne_57 : decode cX2_growsByOne 57 = .ok (.istore 6, 2) := by decide +kernel
theorem dX2_growsByOne_59 : decode cX2_growsByOne 59 = .ok (.aload_n 0, 1) := by decide +kernel
theorem dX2_growsByOne_60 : decode cX2_growsByOne 60 = .ok (.iload 5, 2) := by decide +kernel
theorem dX2_growsByOne_62 : decode cX2_growsByOne 62 = .ok (.iload_n 3, 1) := by decide +kernel
theorem dX2_growsByOne_63 : decode cX2_growsByOne 63 = .ok (.invokevirtual 66, 3) := by decide +kernel
theorem dX2_growsByOne_66 : decode cX2_growsByOne 66 = .ok (.iload 6, 2) := by decide +kernel
theorem dX2_growsByOne_68 : decode cX2_growsByOne 68 = .ok (.istore_n 3, 1) := by decide +kernel
theorem dX2_growsByOne_69 : decode cX2_growsByOne 69 = .ok (.iinc 4 1, 3) := by decide +kernel
theorem dX2_growsByOne_72 : decode cX2_growsByOne 72 = .ok (.goto (-54), 3) := by decide +kernel
theorem dX2_growsByOne_75 : decode cX2_growsByOne 75 = .ok (.iconst 1, 1) := by decide +kernel
theorem dX2_growsByOne_76 : decode cX2_growsByOne 76 = .ok (.ireturn, 1) := by decide +kernel
set_option maxRecDepth 20000 in
theorem ggX2_findFreeRight_X2_leftsWithoutPartner : GoodIn wsX2_findFreeRight wsX2_leftsWithoutPartner := goodIn_r _ [9, 10, 14, 15, 16, 17, 18] (by decide +kernel) (by decide +kernel)
set_option maxRecDepth 20000 in
theorem gX2_findFreeRight_X2_leftsWithoutPartner : GoodIn wsX2_findFreeRight (wsV RX2 70 RX2 yX2_leftsWithoutPartner wsX2_leftsWithoutPartner) := goodIn_app (goodIn_of _ (by decide +kernel)) ggX2_findFreeRight_X2_leftsWithoutPartner
set_option maxRecDepth 20000 in
theorem ggX2_findFreeRight_X5_hasBit : GoodIn wsX2_findFreeRight wsX5_hasBit := goodIn_r _ [13] (by decide +kernel) (by decide +kernel)
set_option maxRecDepth 20000 in
theorem gX2_findFreeRight_X5_hasBit_n47 : GoodIn wsX2_findFreeRight (wsX5_hasBit) := ggX2_findFreeRight_X5_hasBit
theorem dX2_findFreeRight_0 : decode cX2_findFreeRight 0 = .ok (.aload_n 0, 1) := by decide +kernel
theorem dX2_findFreeRight_1 : decode cX2_findFreeRight 1 = .ok (.iload_n 1, 1) := by decide +kernel
theorem dX2_findFreeRight_2 : decode cX2_findFreeRight 2 = .ok (.invokevirtual 70, 3) := by decide +kernel
theorem dX2_findFreeRight_5 : decode cX2_findFreeRight 5 = .ok (.istore_n 3, 1) := by decide +kernel
theorem dX2_findFreeRight_6 : decode cX2_findFreeRight 6 = .ok (.iload_n 2, 1) := by decide +kernel
theorem dX2_findFreeRight_7 : decode cX2_findFreeRight 7 = .ok (.istore 4, 2) := by decide +kernel
theorem dX2_findFreeRight_9 : decode cX2_findFreeRight 9 = .ok (.aload_n 0, 1) := by decide +kernel
theorem dX2_findFreeRight_10 : decode cX2_findFreeRight 10 = .ok (.iload_n 3, 1) := by decide +kernel
theorem dX2_findFreeRight_11 : decode cX2_findFreeRight 11 = .ok (.putfield 62, 3) := by decide +kernel
theorem dX2_findFreeRight_14 : decode cX2_findFreeRight 14 = .ok (.iconst 0, 1) := by decide +kernel
theorem dX2_findFreeRight_15 : decode cX2_findFreeRight 15 = .ok (.istore 5, 2) := by decide +kernel
theorem dX2_findFreeRight_17 : decode cX2_findFreeRight 17 = .ok (.iload 5, 2) := by decide +kernel
theorem dX2_findFreeRight_19 : decode cX2_findFreeRight 19 = .ok (.bipush 8, 2) := by decide +kernel
theorem dX2_findFreeRight_21 : decode cX2_findFreeRight 21 = .ok (.if_icmp .ge 152, 3) := by decide +kernel
theorem dX2_findFreeRight_24 : decode cX2_findFreeRight 24 = .ok (.iload_n 3, 1) := by decide +kernel
theorem dX2_findFreeRight_25 : decode cX2_findFreeRight 25 = .ok (.ifCond .eq 148, 3) := by decide +kernel
theorem dX2_findFreeRight_28 : decode cX2_findFreeRight 28 = .ok (.iload_n 1, 1) := by decide +kernel
theorem dX2_findFreeRight_29 : decode cX2_findFreeRight 29 = .ok (.istore 6, 2) := by decide +kernel
theorem dX2_findFreeRight_31 : decode cX2_findFreeRight 31 = .ok (.iload 6, 2) := by decide +kernel
theorem dX2_findFreeRight_33 : decode cX2_findFreeRight 33 = .ok (.bipush 8, 2) := by decide +kernel
theorem dX2_findFreeRight_35 : decode cX2_findFreeRight 35 = .ok (.if_icmp .ge 132, 3) := by decide +kernel
theorem dX2_findFreeRight_38 : decode cX2_findFreeRight 38 = .ok (.iload_n 3, 1) := by decide +kernel
theorem dX2_findFreeRight_39 : decode cX2_findFreeRight 39 = .ok (.iload 6, 2) := by decide +kernel
theorem dX2_findFreeRight_41 : decode cX2_findFreeRight 41 = .ok (.invokestatic 47, 3) := by decide +kernel
theorem dX2_findFreeRight_44 : decode cX2_findFreeRight 44 = .ok (.ifCond .ne 6, 3) := by decide +kernel
theorem dX2_findFreeRight_47 : decode cX2_findFreeRight 47 = .ok (.goto 114, 3) := by decide +kernel
theorem dX2_findFreeRight_50 : decode cX2_findFreeRight 50 = .ok (.iload_n 3, 1) := by decide +kernel
theorem dX2_findFreeRight_51 : decode cX2_findFreeRight 51 = .ok (.iconst 1, 1) := by decide +kernel
theorem dX2_findFreeRight_52 : decode cX2_findFreeRight 52 = .ok (.iload 6, 2) := by decide +kernel
theorem dX2_findFreeRight_54 : decode cX2_findFreeRight 54 = .ok (.ishl, 1) := by decide +kernel
theorem dX2_findFreeRight_55 : decode cX2_findFreeRight 55 = .ok (.iconst (-1), 1) := by decide +kernel
theorem dX2_findFreeRight_56 : decode cX2_findFreeRight 56 = .ok (.ixor, 1) := by decide +kernel
theorem dX2_findFreeRight_57 : decode cX2_findFreeRight 57 = .ok (.iand, 1) := by decide +kernel
theorem dX2_findFreeRight_58 : decode cX2_findFreeRight 58 = .ok (.istore_n 3, 1) := by decide +kernel
theorem dX2_findFreeRight_59 : decode cX2_findFreeRight 59 = .ok (.iconst 0, 1) := by decide +kernel
theorem dX2_findFreeRight_60 : decode cX2_findFreeRight 60 = .ok (.istore 7, 2) := by decide +kernel
theorem dX2_findFreeRight_62 : decode cX2_findFreeRight 62 = .ok (.iload 7, 2) := by decide +kernel
theorem dX2_findFreeRight_64 : decode cX2_findFreeRight 64 = .ok (.bipush 8, 2) := by decide +kernel
theorem dX2_findFreeRight_66 : decode cX2_findFreeRight 66 = .ok (.if_icmp .ge 95, 3) := by decide +kernel
theorem dX2_findFreeRight_69 : decode cX2_findFreeRight 69 = .ok (.aload_n 0, 1) := by decide +kernel
theorem dX2_findFreeRight_70 : decode cX2_findFreeRight 70 = .ok (.getfield 9, 3) := by decide +kernel
theorem dX2_findFreeRight_73 : decode cX2_findFreeRight 73 = .ok (.iload 6, 2) := by decide +kernel
theorem dX2_findFreeRight_75 : decode cX2_findFreeRight 75 = .ok (.iaload, 1) := by decide +kernel
theorem dX2_findFreeRight_76 : decode cX2_findFreeRight 76 = .ok (.iload 4, 2) := by decide +kernel
theorem dX2_findFreeRight_78 : decode cX2_findFreeRight 78 = .ok (.iand, 1) := by decide +kernel
theorem dX2_findFreeRight_79 : decode cX2_findFreeRight 79 = .ok (.iload 7, 2) := by decide +kernel
theorem dX2_findFreeRight_81 : decode cX2_findFreeRight 81 = .ok (.invokestatic 47, 3) := by decide +kernel
theorem dX2_findFreeRight_84 : decode cX2_findFreeRight 84 = .ok (.ifCond .ne 6, 3) := by decide +kernel
theorem dX2_findFreeRight_87 : decode cX2_findFreeRight 87 = .ok (.goto 68, 3) := by decide +kernel
theorem dX2_findFreeRight_90 : decode cX2_findFreeRight 90 = .ok (.iload 4, 2) := by decide +kernel
theorem dX2_findFreeRight_92 : decode cX2_findFreeRight 92 = .ok (.iconst 1, 1) := by decide +kernel
theorem dX2_findFreeRight_93 : decode cX2_findFreeRight 93 = .ok (.iload 7, 2) := by decide +kernel
theorem dX2_findFreeRight_95 : decode cX2_findFreeRight 95 = .ok (.ishl, 1) := by decide +kernel
theorem dX2_findFreeRight_96 : decode cX2_findFreeRight 96 = .ok (.iconst (-1), 1) := by decide +kernel
theorem dX2_findFreeRight_97 : decode cX2_findFreeRight 97 = .ok (.ixor, 1) := by decide +kernel
theorem dX2_findFreeRight_98 : decode cX2_findFreeRight 98 = .ok (.iand, 1) := by decide +kernel
theorem dX2_findFreeRight_99 : decode cX2_findFreeRight 99 = .ok (.istore 4, 2) := by decide +kernel
theorem dX2_findFreeRight_101 : decode cX2_findFreeRight 101 = .ok (.aload_n 0, 1) := by decide +kernel
theorem dX2_findFreeRight_102 : decode cX2_findFreeRight 102 = .ok (.getfield 21, 3) := by decide +kernel
theorem dX2_findFreeRight_105 : decode cX2_findFreeRight 105 = .ok (.iload 7, 2) := by decide +kernel
theorem dX2_findFreeRight_107 : decode cX2_findFreeRight 107 = .ok (.iload 6, 2) := by decide +kernel
theorem dX2_findFreeRight_109 : decode cX2_findFreeRight 109 = .ok (.iastore, 1) := by decide +kernel
theorem dX2_findFreeRight_110 : decode cX2_findFreeRight 110 = .ok (.aload_n 0, 1) := by decide +kernel
theorem dX2_findFreeRight_111 : decode cX2_findFreeRight 111 = .ok (.getfield 18, 3) := by decide +kernel
theorem dX2_findFreeRight_114 : decode cX2_findFreeRight 114 = .ok (.iload 7, 2) := by decide +kernel
theorem dX2_findFreeRight_116 : decode cX2_findFreeRight 116 = .ok (.iaload, 1) := by decide +kernel
theorem dX2_findFreeRight_117 : decode cX2_findFreeRight 117 = .ok (.bipush (-5), 2) := by decide +kernel
theorem dX2_findFreeRight_119 : decode cX2_findFreeRight 119 = .ok (.if_icmp .ne 6, 3) := by decide +kernel
theorem dX2_findFreeRight_122 : decode cX2_findFreeRight 122 = .ok (.iload 7, 2) := by decide +kernel
theorem dX2_findFreeRight_124 : decode cX2_findFreeRight 124 = .ok (.ireturn, 1) := by decide +kernel
theorem dX2_findFreeRight_125 : decode cX2_findFreeRight 125 = .ok (.iload_n 3, 1) := by decide +kernel
theorem dX2_findFreeRight_126 : decode cX2_findFreeRight 126 = .ok (.iconst 1, 1) := by decide +kernel
theorem dX2_findFreeRight_127 : decode cX2_findFreeRight 127 = .ok (.aload_n 0, 1) := by decide +kernel
theorem dX2_findFreeRight_128 : decode cX2_findFreeRight 128 = .ok (.getfield 18, 3) := by decide +kernel
theorem dX2_findFreeRight_131 : decode cX2_findFreeRight 131 = .ok (.iload 7, 2) := by decide +kernel
theorem dX2_findFreeRight_133 : decode cX2_findFreeRight 133 = .ok (.iaload, 1) := by decide +kernel
theorem dX2_findFreeRight_134 : decode cX2_findFreeRight 134 = .ok (.ishl, 1) := by decide +kernel
theorem dX2_findFreeRight_135 : decode cX2_findFreeRight 135 = .ok (.ior, 1) := by decide +kernel
theorem dX2_findFreeRight_136 : decode cX2_findFreeRight 136 = .ok (.istore_n 3, 1) := by decide +kernel
theorem dX2_findFreeRight_137 : decode cX2_findFreeRight 137 = .ok (.aload_n 0, 1) := by decide +kernel
theorem dX2_findFreeRight_138 : decode cX2_findFreeRight 138 = .ok (.dup, 1) := by decide +kernel
theorem dX2_findFreeRight_139 : decode cX2_findFreeRight 139 = .ok (.getfield 62, 3) := by decide +kernel
theorem dX2_findFreeRight_142 : decode cX2_findFreeRight 142 = .ok (.iconst 1, 1) := by decide +kernel
theorem dX2_findFreeRight_143 : decode cX2_findFreeRight 143 = .ok (.aload_n 0, 1) := by decide +kernel
theorem dX2_findFreeRight_144 : decode cX2_findFreeRight 144 = .ok (.getfield 18, 3) := by decide +kernel
theorem dX2_findFreeRight_147 : decode cX2_findFreeRight 147 = .ok (.iload 7, 2) := by decide +kernel
theorem dX2_findFreeRight_149 : decode cX2_findFreeRight 149 = .ok (.iaload, 1) := by decide +kernel
theorem dX2_findFreeRight_150 : decode cX2_findFreeRight 150 = .ok (.ishl, 1) := by decide +kernel
theorem dX2_findFreeRight_151 : decode cX2_findFreeRight 151 = .ok (.ior, 1) := by decide +kernel
theorem dX2_findFreeRight_152 : decode cX2_findFreeRight 152 = .ok (.putfield 62, 3) := by decide +kernel
theorem dX2_findFreeRight_155 : decode cX2_findFreeRight 155 = .ok (.iinc 7 1, 3) := by decide +kernel
theorem dX2_findFreeRight_158 : decode cX2_findFreeRight 158 = .ok (.goto (-96), 3) := by decide +kernel
theorem dX2_findFreeRight_161 : decode cX2_findFreeRight 161 = .ok (.iinc 6 1, 3) := by decide +kernel
theorem dX2_findFreeRight_164 : decode cX2_findFreeRight 164 = .ok (.goto (-133), 3) := by decide +kernel
theorem dX2_findFreeRight_167 : decode cX2_findFreeRight 167 = .ok (.iinc 5 1, 3) := by decide +kernel
theorem dX2_findFreeRight_170 : decode cX2_findFreeRight 170 = .ok (.goto (-153), 3) := by decide +kernel
theorem dX2_findFreeRight_173 : decode cX2_findFreeRight 173 = .ok (.bipush (-5), 2) := by decide +kernel
theorem dX2_findFreeRight_175 : decode cX2_findFreeRight 175 = .ok (.ireturn, 1) := by decide +kernel
theorem dX2_leftsWithoutPartner_0 : decode cX2_leftsWithoutPartner 0 = .ok (.iconst 0, 1) := by decide +kernel
theorem dX2_leftsWithoutPartner_1 : decode cX2_leftsWithoutPartner 1 = .ok (.istore_n 2, 1) := by decide +kernel
theorem dX2_leftsWithoutPartner_2 : decode cX2_leftsWithoutPartner 2 = .ok (.iload_n 1, 1) := by decide +kernel
theorem dX2_leftsWithoutPartner_3 : decode cX2_leftsWithoutPartner 3 = .ok (.istore_n 3, 1) := by decide +kernel
theorem dX2_leftsWithoutPartner_4 : decode cX2_leftsWithoutPartner 4 = .ok (.iload_n 3, 1) := by decide +kernel
theorem dX2_leftsWithoutPartner_5 : decode cX2_leftsWithoutPartner 5 = .ok (.bipush 8, 2) := by decide +kernel
theorem dX2_leftsWithoutPartner_7 : decode cX2_leftsWithoutPartner 7 = .ok (.if_icmp .ge 26, 3) := by decide +kernel
theorem dX2_leftsWithoutPartner_10 : decode cX2_leftsWithoutPartner 10 = .ok (.aload_n 0, 1) := by decide +kernel
theorem dX2_leftsWithoutPartner_11 : decode cX2_leftsWithoutPartner 11 = .ok (.getfield 15, 3) := by decide +kernel
