theorem dX2_leftsWithoutPartner_14 : decode cX2_leftsWithoutPartner 14 = .ok (.iload_n 3, 1) := by decide +kernel
theorem dX2_leftsWithoutPartner_15 : decode cX2_leftsWithoutPartner 15 = .ok (.iaload, 1) := by decide +kernel
theorem dX2_leftsWithoutPartner_16 : decode cX2_leftsWithoutPartner 16 = .ok (.bipush (-5), 2) := by decide +kernel
theorem dX2_leftsWithoutPartner_18 : decode cX2_leftsWithoutPartner 18 = .ok (.if_icmp .ne 9, 3) := by decide +kernel
theorem dX2_leftsWithoutPartner_21 : decode cX2_leftsWithoutPartner 21 = .ok (.iload_n 2, 1) := by decide +kernel
theorem dX2_leftsWithoutPartner_22 : decode cX2_leftsWithoutPartner 22 = .ok (.iconst 1, 1) := by decide +kernel
theorem dX2_leftsWithoutPartner_23 : decode cX2_leftsWithoutPartner 23 = .ok (.iload_n 3, 1) := by decide +kernel
theorem dX2_leftsWithoutPartner_24 : decode cX2_leftsWithoutPartner 24 = .ok (.ishl, 1) := by decide +kernel
theorem dX2_leftsWithoutPartner_25 : decode cX2_leftsWithoutPartner 25 = .ok (.ior, 1) := by decide +kernel
theorem dX2_leftsWithoutPartner_26 : decode cX2_leftsWithoutPartner 26 = .ok (.istore_n 2, 1) := by decide +kernel
theorem dX2_leftsWithoutPartner_27 : decode cX2_leftsWithoutPartner 27 = .ok (.iinc 3 1, 3) := by decide +kernel
theorem dX2_leftsWithoutPartner_30 : decode cX2_leftsWithoutPartner 30 = .ok (.goto (-26), 3) := by decide +kernel
theorem dX2_leftsWithoutPartner_33 : decode cX2_leftsWithoutPartner 33 = .ok (.iload_n 2, 1) := by decide +kernel
theorem dX2_leftsWithoutPartner_34 : decode cX2_leftsWithoutPartner 34 = .ok (.ireturn, 1) := by decide +kernel
theorem dX3_init_0 : decode cX3_init 0 = .ok (.aload_n 0, 1) := by decide +kernel
theorem dX3_init_1 : decode cX3_init 1 = .ok (.invokespecial 3, 3) := by decide +kernel
theorem dX3_init_4 : decode cX3_init 4 = .ok (.aload_n 0, 1) := by decide +kernel
theorem dX3_init_5 : decode cX3_init 5 = .ok (.bipush 64, 2) := by decide +kernel
theorem dX3_init_7 : decode cX3_init 7 = .ok (.newarray .int, 2) := by decide +kernel
theorem dX3_init_9 : decode cX3_init 9 = .ok (.putfield 9, 3) := by decide +kernel
theorem dX3_init_12 : decode cX3_init 12 = .ok (.return_, 1) := by decide +kernel
theorem dX4_init_0 : decode cX4_init 0 = .ok (.aload_n 0, 1) := by decide +kernel
theorem dX4_init_1 : decode cX4_init 1 = .ok (.invokespecial 3, 3) := by decide +kernel
theorem dX4_init_4 : decode cX4_init 4 = .ok (.aload_n 0, 1) := by decide +kernel
theorem dX4_init_5 : decode cX4_init 5 = .ok (.bipush 80, 2) := by decide +kernel
theorem dX4_init_7 : decode cX4_init 7 = .ok (.newarray .char, 2) := by decide +kernel
theorem dX4_init_9 : decode cX4_init 9 = .ok (.putfield 9, 3) := by decide +kernel
theorem dX4_init_12 : decode cX4_init 12 = .ok (.aload_n 0, 1) := by decide +kernel
theorem dX4_init_13 : decode cX4_init 13 = .ok (.bipush 8, 2) := by decide +kernel
theorem dX4_init_15 : decode cX4_init 15 = .ok (.newarray .int, 2) := by decide +kernel
theorem dX4_init_17 : decode cX4_init 17 = .ok (.putfield 15, 3) := by decide +kernel
theorem dX4_init_20 : decode cX4_init 20 = .ok (.return_, 1) := by decide +kernel
theorem dX4_length_0 : decode cX4_length 0 = .ok (.aload_n 0, 1) := by decide +kernel
theorem dX4_length_1 : decode cX4_length 1 = .ok (.getfield 19, 3) := by decide +kernel
theorem dX4_length_4 : decode cX4_length 4 = .ok (.ireturn, 1) := by decide +kernel
set_option maxRecDepth 20000 in
theorem ggX5_init_X0_init : GoodIn wsX5_init wsX0_init := goodIn_r _ [29, 30, 2, 3, 31, 32, 54] (by decide +kernel) (by decide +kernel)
set_option maxRecDepth 20000 in
theorem gX5_init_X0_init : GoodIn wsX5_init (wsX0_init) := ggX5_init_X0_init
set_option maxRecDepth 20000 in
theorem ggX5_init_X1_init : GoodIn wsX5_init wsX1_init := goodIn_r _ [34, 35, 2, 3, 31, 36, 63, 64, 65] (by decide +kernel) (by decide +kernel)
set_option maxRecDepth 20000 in
theorem gX5_init_X1_init_n24 : GoodIn wsX5_init (wsX1_init) := ggX5_init_X1_init
set_option maxRecDepth 20000 in
theorem ggX5_init_X4_init : GoodIn wsX5_init wsX4_init := goodIn_r _ [38, 39, 2, 3, 40, 41, 31, 42, 66, 67, 68, 69, 70, 71] (by decide +kernel) (by decide +kernel)
set_option maxRecDepth 20000 in
theorem gX5_init_X4_init_n31 : GoodIn wsX5_init (wsX4_init) := ggX5_init_X4_init
set_option maxRecDepth 20000 in
theorem ggX5_init_X2_init : GoodIn wsX5_init wsX2_init := goodIn_r _ [44, 45, 2, 3, 31, 46, 47, 48, 49, 72, 73, 74, 75, 76] (by decide +kernel) (by decide +kernel)
set_option maxRecDepth 20000 in
theorem gX5_init_X2_init_n38 : GoodIn wsX5_init (wsX2_init) := ggX5_init_X2_init
set_option maxRecDepth 20000 in
theorem ggX5_init_X3_init : GoodIn wsX5_init wsX3_init := goodIn_r _ [51, 52, 2, 3, 31, 53, 77] (by decide +kernel) (by decide +kernel)
set_option maxRecDepth 20000 in
theorem gX5_init_X3_init_n45 : GoodIn wsX5_init (wsX3_init) := ggX5_init_X3_init
theorem dX5_init_0 : decode cX5_init 0 = .ok (.aload_n 0, 1) := by decide +kernel
theorem dX5_init_1 : decode cX5_init 1 = .ok (.invokespecial 3, 3) := by decide +kernel
theorem dX5_init_4 : decode cX5_init 4 = .ok (.aload_n 0, 1) := by decide +kernel
theorem dX5_init_5 : decode cX5_init 5 = .ok (.new 9, 3) := by decide +kernel
theorem dX5_init_8 : decode cX5_init 8 = .ok (.dup, 1) := by decide +kernel
theorem dX5_init_9 : decode cX5_init 9 = .ok (.invokespecial 11, 3) := by decide +kernel
theorem dX5_init_12 : decode cX5_init 12 = .ok (.putfield 12, 3) := by decide +kernel
theorem dX5_init_15 : decode cX5_init 15 = .ok (.aload_n 0, 1) := by decide +kernel
theorem dX5_init_16 : decode cX5_init 16 = .ok (.new 9, 3) := by decide +kernel
theorem dX5_init_19 : decode cX5_init 19 = .ok (.dup, 1) := by decide +kernel
theorem dX5_init_20 : decode cX5_init 20 = .ok (.invokespecial 11, 3) := by decide +kernel
theorem dX5_init_23 : decode cX5_init 23 = .ok (.putfield 16, 3) := by decide +kernel
theorem dX5_init_26 : decode cX5_init 26 = .ok (.aload_n 0, 1) := by decide +kernel
theorem dX5_init_27 : decode cX5_init 27 = .ok (.new 9, 3) := by decide +kernel
theorem dX5_init_30 : decode cX5_init 30 = .ok (.dup, 1) := by decide +kernel
theorem dX5_init_31 : decode cX5_init 31 = .ok (.invokespecial 11, 3) := by decide +kernel
theorem dX5_init_34 : decode cX5_init 34 = .ok (.putfield 19, 3) := by decide +kernel
theorem dX5_init_37 : decode cX5_init 37 = .ok (.aload_n 0, 1) := by decide +kernel
theorem dX5_init_38 : decode cX5_init 38 = .ok (.new 22, 3) := by decide +kernel
theorem dX5_init_41 : decode cX5_init 41 = .ok (.dup, 1) := by decide +kernel
theorem dX5_init_42 : decode cX5_init 42 = .ok (.invokespecial 24, 3) := by decide +kernel
theorem dX5_init_45 : decode cX5_init 45 = .ok (.putfield 25, 3) := by decide +kernel
theorem dX5_init_48 : decode cX5_init 48 = .ok (.aload_n 0, 1) := by decide +kernel
theorem dX5_init_49 : decode cX5_init 49 = .ok (.new 29, 3) := by decide +kernel
theorem dX5_init_52 : decode cX5_init 52 = .ok (.dup, 1) := by decide +kernel
theorem dX5_init_53 : decode cX5_init 53 = .ok (.invokespecial 31, 3) := by decide +kernel
theorem dX5_init_56 : decode cX5_init 56 = .ok (.putfield 32, 3) := by decide +kernel
theorem dX5_init_59 : decode cX5_init 59 = .ok (.aload_n 0, 1) := by decide +kernel
theorem dX5_init_60 : decode cX5_init 60 = .ok (.new 36, 3) := by decide +kernel
theorem dX5_init_63 : decode cX5_init 63 = .ok (.dup, 1) := by decide +kernel
theorem dX5_init_64 : decode cX5_init 64 = .ok (.invokespecial 38, 3) := by decide +kernel
theorem dX5_init_67 : decode cX5_init 67 = .ok (.putfield 39, 3) := by decide +kernel
theorem dX5_init_70 : decode cX5_init 70 = .ok (.aload_n 0, 1) := by decide +kernel
theorem dX5_init_71 : decode cX5_init 71 = .ok (.new 43, 3) := by decide +kernel
theorem dX5_init_74 : decode cX5_init 74 = .ok (.dup, 1) := by decide +kernel
theorem dX5_init_75 : decode cX5_init 75 = .ok (.invokespecial 45, 3) := by decide +kernel
theorem dX5_init_78 : decode cX5_init 78 = .ok (.putfield 46, 3) := by decide +kernel
theorem dX5_init_81 : decode cX5_init 81 = .ok (.aload_n 0, 1) := by decide +kernel
theorem dX5_init_82 : decode cX5_init 82 = .ok (.iconst 0, 1) := by decide +kernel
theorem dX5_init_83 : decode cX5_init 83 = .ok (.putfield 50, 3) := by decide +kernel
theorem dX5_init_86 : decode cX5_init 86 = .ok (.return_, 1) := by decide +kernel
set_option maxRecDepth 20000 in
theorem ggX5_wish_X5_arePeople : GoodIn wsX5_wish wsX5_arePeople := goodIn_r _ [6, 7, 8, 5, 9] (by decide +kernel) (by decide +kernel)
set_option maxRecDepth 20000 in
theorem gX5_wish_X5_arePeople : GoodIn wsX5_wish (va_wsS RX5 54 yX5_arePeople wsX5_arePeople) := goodIn_app (goodIn_of _ (by decide +kernel)) ggX5_wish_X5_arePeople
set_option maxRecDepth 20000 in
theorem ggX5_wish_X0_hasWish : GoodIn wsX5_wish wsX0_hasWish := goodIn_r _ [14, 15, 16, 5, 17, 61] (by decide +kernel) (by decide +kernel)
set_option maxRecDepth 20000 in
theorem gX5_wish_X0_hasWish : GoodIn wsX5_wish (wsV RX5 58 RX0 yX0_hasWish wsX0_hasWish) := goodIn_app (goodIn_of _ (by decide +kernel)) ggX5_wish_X0_hasWish
set_option maxRecDepth 20000 in
theorem ggX5_wish_X1_keep : GoodIn wsX5_wish wsX1_keep := goodIn_r _ [22, 23, 24, 25, 26, 27, 28, 29, 30, 31, 32, 21, 33, 62, 63, 64, 61] (by decide +kernel) (by decide +kernel)
set_option maxRecDepth 20000 in
theorem gX5_wish_X1_keep : GoodIn wsX5_wish (wsV RX5 61 RX1 yX1_keep wsX1_keep) := goodIn_app (goodIn_of _ (by decide +kernel)) ggX5_wish_X1_keep
set_option maxRecDepth 20000 in
theorem ggX5_wish_X0_openWish : GoodIn wsX5_wish wsX0_openWish := goodIn_r _ [37, 38, 39, 40, 13, 41, 15, 61] (by decide +kernel) (by decide +kernel)
set_option maxRecDepth 20000 in
theorem gX5_wish_X0_openWish : GoodIn wsX5_wish (wsV RX5 65 RX0 yX0_openWish wsX0_openWish) := goodIn_app (goodIn_of _ (by decide +kernel)) ggX5_wish_X0_openWish
set_option maxRecDepth 20000 in
theorem ggX5_wish_X0_numberOfWishes : GoodIn wsX5_wish wsX0_numberOfWishes := goodIn_r _ [45, 15, 46, 47, 48, 49, 50, 51, 52, 61] (by decide +kernel) (by decide +kernel)
set_option maxRecDepth 20000 in
theorem gX5_wish_X0_numberOfWishes : GoodIn wsX5_wish (wsV RX5 69 RX0 yX0_numberOfWishes wsX0_numberOfWishes) := goodIn_app (goodIn_of _ (by decide +kernel)) ggX5_wish_X0_numberOfWishes
theorem dX5_wish_0 : decode cX5_wish 0 = .ok (.iload_n 1, 1) := by decide +kernel
theorem dX5_wish_1 : decode cX5_wish 1 = .ok (.iload_n 2, 1) := by decide +kernel
theorem dX5_wish_2 : decode cX5_wish 2 = .ok (.invokestatic 54, 3) := by decide +kernel
theorem dX5_wish_5 : decode cX5_wish 5 = .ok (.ifCond .ne 5, 3) := by decide +kernel
theorem dX5_wish_8 : decode cX5_wish 8 = .ok (.iconst (-1), 1) := by decide +kernel
theorem dX5_wish_9 : decode cX5_wish 9 = .ok (.ireturn, 1) := by decide +kernel
theorem dX5_wish_10 : decode cX5_wish 10 = .ok (.aload_n 0, 1) := by decide +kernel
theorem dX5_wish_11 : decode cX5_wish 11 = .ok (.getfield 12, 3) := by decide +kernel
theorem dX5_wish_14 : decode cX5_wish 14 = .ok (.iload_n 1, 1) := by decide +kernel
theorem dX5_wish_15 : decode cX5_wish 15 = .ok (.iload_n 2, 1) := by decide +kernel
theorem dX5_wish_16 : decode cX5_wish 16 = .ok (.invokevirtual 58, 3) := by decide +kernel
theorem dX5_wish_19 : decode cX5_wish 19 = .ok (.ifCond .eq 6, 3) := by decide +kernel
theorem dX5_wish_22 : decode cX5_wish 22 = .ok (.bipush (-4), 2) := by decide +kernel
theorem dX5_wish_24 : decode cX5_wish 24 = .ok (.ireturn, 1) := by decide +kernel
theorem dX5_wish_25 : decode cX5_wish 25 = .ok (.aload_n 0, 1) := by decide +kernel
theorem dX5_wish_26 : decode cX5_wish 26 = .ok (.getfield 25, 3) := by decide +kernel
theorem dX5_wish_29 : decode cX5_wish 29 = .ok (.aload_n 0, 1) := by decide +kernel
theorem dX5_wish_30 : decode cX5_wish 30 = .ok (.getfield 12, 3) := by decide +kernel
theorem dX5_wish_33 : decode cX5_wish 33 = .ok (.invokevirtual 61, 3) := by decide +kernel
theorem dX5_wish_36 : decode cX5_wish 36 = .ok (.aload_n 0, 1) := by decide +kernel
theorem dX5_wish_37 : decode cX5_wish 37 = .ok (.getfield 12, 3) := by decide +kernel
theorem dX5_wish_40 : decode cX5_wish 40 = .ok (.iload_n 1, 1) := by decide +kernel
theorem dX5_wish_41 : decode cX5_wish 41 = .ok (.iload_n 2, 1) := by decide +kernel
theorem dX5_wish_42 : decode cX5_wish 42 = .ok (.invokevirtual 65, 3) := by decide +kernel
theorem dX5_wish_45 : decode cX5_wish 45 = .ok (.aload_n 0, 1) := by decide +kernel
theorem dX5_wish_46 : decode cX5_wish 46 = .ok (.getfield 12, 3) := by decide +kernel
theorem dX5_wish_49 : decode cX5_wish 49 = .ok (.invokevirtual 69, 3) := by decide +kernel
theorem dX5_wish_52 : decode cX5_wish 52 = .ok (.ireturn, 1) := by decide +kernel
set_option maxRecDepth 20000 in
theorem ggX5_withdraw_X5_arePeople : GoodIn wsX5_withdraw wsX5_arePeople := goodIn_r _ [6, 7, 8, 5, 9] (by decide +kernel) (by decide +kernel)
set_option maxRecDepth 20000 in
theorem gX5_withdraw_X5_arePeople : GoodIn wsX5_withdraw (va_wsS RX5 54 yX5_arePeople wsX5_arePeople) := goodIn_app (goodIn_of _ (by decide +kernel)) ggX5_withdraw_X5_arePeople
set_option maxRecDepth 20000 in
theorem ggX5_withdraw_X0_hasWish : GoodIn wsX5_withdraw wsX0_hasWish := goodIn_r _ [14, 15, 16, 5, 17, 57] (by decide +kernel) (by decide +kernel)
set_option maxRecDepth 20000 in
theorem gX5_withdraw_X0_hasWish : GoodIn wsX5_withdraw (wsV RX5 58 RX0 yX0_hasWish wsX0_hasWish) := goodIn_app (goodIn_of _ (by decide +kernel)) ggX5_withdraw_X0_hasWish
set_option maxRecDepth 20000 in
theorem ggX5_withdraw_X1_keep : GoodIn wsX5_withdraw wsX1_keep := goodIn_r _ [22, 23, 24, 25, 26, 27, 28, 29, 30, 31, 32, 21, 33, 58, 59, 60, 57] (by decide +kernel) (by decide +kernel)
set_option maxRecDepth 20000 in
theorem gX5_withdraw_X1_keep : GoodIn wsX5_withdraw (wsV RX5 61 RX1 yX1_keep wsX1_keep) := goodIn_app (goodIn_of _ (by decide +kernel)) ggX5_withdraw_X1_keep
set_option maxRecDepth 20000 in
theorem ggX5_withdraw_X0_closeWish : GoodIn wsX5_withdraw wsX0_closeWish := goodIn_r _ [37, 15, 57] (by decide +kernel) (by decide +kernel)
set_option maxRecDepth 20000 in
theorem gX5_withdraw_X0_closeWish : GoodIn wsX5_withdraw (wsV RX5 73 RX0 yX0_closeWish wsX0_closeWish) := goodIn_app (goodIn_of _ (by decide +kernel)) ggX5_withdraw_X0_closeWish
set_option maxRecDepth 20000 in
theorem ggX5_withdraw_X0_numberOfWishes : GoodIn wsX5_withdraw wsX0_numberOfWishes := goodIn_r _ [41, 15, 42, 43, 44, 45, 46, 47, 48, 57] (by decide +kernel) (by decide +kernel)
set_option maxRecDepth 20000 in
theorem gX5_withdraw_X0_numberOfWishes : GoodIn wsX5_withdraw (wsV RX5 69 RX0 yX0_numberOfWishes wsX0_numberOfWishes) := goodIn_app (goodIn_of _ (by decide +kernel)) ggX5_withdraw_X0_numberOfWishes
theorem dX5_withdraw_0 : decode cX5_withdraw 0 = .ok (.iload_n 1, 1) := by decide +kernel
theorem dX5_withdraw_1 : decode cX5_withdraw 1 = .ok (.iload_n 2, 1) := by decide +kernel
theorem dX5_withdraw_2 : decode cX5_withdraw 2 = .ok (.invokestatic 54, 3) := by decide +kernel
theorem dX5_withdraw_5 : decode cX5_withdraw 5 = .ok (.ifCond .ne 5, 3) := by decide +kernel
theorem dX5_withdraw_8 : decode cX5_withdraw 8 = .ok (.iconst (-1), 1) := by decide +kernel
theorem dX5_withdraw_9 : decode cX5_withdraw 9 = .ok (.ireturn, 1) := by decide +kernel
theorem dX5_withdraw_10 : decode cX5_withdraw 10 = .ok (.aload_n 0, 1) := by decide +kernel
theorem dX5_withdraw_11 : decode cX5_withdraw 11 = .ok (.getfield 12, 3) := by decide +kernel
theorem dX5_withdraw_14 : decode cX5_withdraw 14 = .ok (.iload_n 1, 1) := by decide +kernel
theorem dX5_withdraw_15 : decode cX5_withdraw 15 = .ok (.iload_n 2, 1) := by decide +kernel
theorem dX5_withdraw_16 : decode cX5_withdraw 16 = .ok (.invokevirtual 58, 3) := by decide +kernel
theorem dX5_withdraw_19 : decode cX5_withdraw 19 = .ok (.ifCond .ne 6, 3) := by decide +kernel
theorem dX5_withdraw_22 : decode cX5_withdraw 22 = .ok (.bipush (-4), 2) := by decide +kernel
theorem dX5_withdraw_24 : decode cX5_withdraw 24 = .ok (.ireturn, 1) := by decide +kernel
theorem dX5_withdraw_25 : decode cX5_withdraw 25 = .ok (.aload_n 0, 1) := by decide +kernel
theorem dX5_withdraw_26 : decode cX5_withdraw 26 = .ok (.getfield 25, 3) := by decide +kernel
theorem dX5_withdraw_29 : decode cX5_withdraw 29 = .ok (.aload_n 0, 1) := by decide +kernel
theorem dX5_withdraw_30 : decode cX5_withdraw 30 = .ok (.getfield 12, 3) := by decide +kernel
theorem dX5_withdraw_33 : decode cX5_withdraw 33 = .ok (.invokevirtual 61, 3) := by decide +kernel
theorem dX5_withdraw_36 : decode cX5_withdraw 36 = .ok (.aload_n 0, 1) := by decide +kernel
theorem dX5_withdraw_37 : decode cX5_withdraw 37 = .ok (.getfield 12, 3) := by decide +kernel
theorem dX5_withdraw_40 : decode cX5_withdraw 40 = .ok (.iload_n 1, 1) := by decide +kernel
theorem dX5_withdraw_41 : decode cX5_withdraw 41 = .ok (.iload_n 2, 1) := by decide +kernel
theorem dX5_withdraw_42 : decode cX5_withdraw 42 = .ok (.invokevirtual 73, 3) := by decide +kernel
theorem dX5_withdraw_45 : decode cX5_withdraw 45 = .ok (.aload_n 0, 1) := by decide +kernel
theorem dX5_withdraw_46 : decode cX5_withdraw 46 = .ok (.getfield 12, 3) := by decide +kernel
theorem dX5_withdraw_49 : decode cX5_withdraw 49 = .ok (.invokevirtual 69, 3) := by decide +kernel
theorem dX5_withdraw_52 : decode cX5_withdraw 52 = .ok (.ireturn, 1) := by decide +kernel
set_option maxRecDepth 20000 in
theorem ggX5_quarrel_X5_arePeople : GoodIn wsX5_quarrel wsX5_arePeople := goodIn_r _ [6, 7, 8, 5, 9] (by decide +kernel) (by decide +kernel)
set_option maxRecDepth 20000 in
theorem gX5_quarrel_X5_arePeople : GoodIn wsX5_quarrel (va_wsS RX5 54 yX5_arePeople wsX5_arePeople) := goodIn_app (goodIn_of _ (by decide +kernel)) ggX5_quarrel_X5_arePeople
set_option maxRecDepth 20000 in
theorem ggX5_quarrel_X1_keep : GoodIn wsX5_quarrel wsX1_keep := goodIn_r _ [14, 15, 16, 17, 18, 19, 20, 21, 22, 23, 24, 13, 25, 44, 45, 46, 47] (by decide +kernel) (by decide +kernel)
set_option maxRecDepth 20000 in
theorem gX5_quarrel_X1_keep : GoodIn wsX5_quarrel (wsV RX5 61 RX1 yX1_keep wsX1_keep) := goodIn_app (goodIn_of _ (by decide +kernel)) ggX5_quarrel_X1_keep
set_option maxRecDepth 20000 in
theorem ggX5_quarrel_X0_feudOf : GoodIn wsX5_quarrel wsX0_feudOf := goodIn_r _ [30, 31, 47] (by decide +kernel) (by decide +kernel)
set_option maxRecDepth 20000 in
theorem gX5_quarrel_X0_feudOf : GoodIn wsX5_quarrel (wsV RX5 76 RX0 yX0_feudOf wsX0_feudOf) := goodIn_app (goodIn_of _ (by decide +kernel)) ggX5_quarrel_X0_feudOf
set_option maxRecDepth 20000 in
theorem ggX5_quarrel_X0_setFeud : GoodIn wsX5_quarrel wsX0_setFeud := goodIn_r _ [35, 31, 47] (by decide +kernel) (by decide +kernel)
set_option maxRecDepth 20000 in
theorem gX5_quarrel_X0_setFeud : GoodIn wsX5_quarrel (wsV RX5 80 RX0 yX0_setFeud wsX0_setFeud) := goodIn_app (goodIn_of _ (by decide +kernel)) ggX5_quarrel_X0_setFeud
theorem dX5_quarrel_0 : decode cX5_quarrel 0 = .ok (.iload_n 1, 1) := by decide +kernel
theorem dX5_quarrel_1 : decode cX5_quarrel 1 = .ok (.iload_n 2, 1) := by decide +kernel
theorem dX5_quarrel_2 : decode cX5_quarrel 2 = .ok (.invokestatic 54, 3) := by decide +kernel
theorem dX5_quarrel_5 : decode cX5_quarrel 5 = .ok (.ifCond .ne 5, 3) := by decide +kernel
theorem dX5_quarrel_8 : decode cX5_quarrel 8 = .ok (.iconst (-1), 1) := by decide +kernel
theorem dX5_quarrel_9 : decode cX5_quarrel 9 = .ok (.ireturn, 1) := by decide +kernel
theorem dX5_quarrel_10 : decode cX5_quarrel 10 = .ok (.iload_n 3, 1) := by decide +kernel
theorem dX5_quarrel_11 : decode cX5_quarrel 11 = .ok (.iconst 1, 1) := by decide +kernel
theorem dX5_quarrel_12 : decode cX5_quarrel 12 = .ok (.if_icmp .lt 9, 3) := by decide +kernel
theorem dX5_quarrel_15 : decode cX5_quarrel 15 = .ok (.iload_n 3, 1) := by decide +kernel
theorem dX5_quarrel_16 : decode cX5_quarrel 16 = .ok (.bipush 50, 2) := by decide +kernel
theorem dX5_quarrel_18 : decode cX5_quarrel 18 = .ok (.if_icmp .le 6, 3) := by decide +kernel
theorem dX5_quarrel_21 : decode cX5_quarrel 21 = .ok (.bipush (-2), 2) := by decide +kernel
theorem dX5_quarrel_23 : decode cX5_quarrel 23 = .ok (.ireturn, 1) := by decide +kernel
theorem dX5_quarrel_24 : decode cX5_quarrel 24 = .ok (.aload_n 0, 1) := by decide +kernel
theorem dX5_quarrel_25 : decode cX5_quarrel 25 = .ok (.getfield 25, 3) := by decide +kernel
theorem dX5_quarrel_28 : decode cX5_quarrel 28 = .ok (.aload_n 0, 1) := by decide +kernel
theorem dX5_quarrel_29 : decode cX5_quarrel 29 = .ok (.getfield 12, 3) := by decide +kernel
theorem dX5_quarrel_32 : decode cX5_quarrel 32 = .ok (.invokevirtual 61, 3) := by decide +kernel
theorem dX5_quarrel_35 : decode cX5_quarrel 35 = .ok (.aload_n 0, 1) := by decide +kernel
theorem dX5_quarrel_36 : decode cX5_quarrel 36 = .ok (.getfield 12, 3) := by decide +kernel
theorem dX5_quarrel_39 : decode cX5_quarrel 39 = .ok (.iload_n 1, 1) := by decide +kernel
theorem dX5_quarrel_40 : decode cX5_quarrel 40 = .ok (.iload_n 2, 1) := by decide +kernel
theorem dX5_quarrel_41 : decode cX5_quarrel 41 = .ok (.invokevirtual 76, 3) := by decide +kernel
theorem dX5_quarrel_44 : decode cX5_quarrel 44 = .ok (.istore 4, 2) := by decide +kernel
theorem dX5_quarrel_46 : decode cX5_quarrel 46 = .ok (.aload_n 0, 1) := by decide +kernel
theorem dX5_quarrel_47 : decode cX5_quarrel 47 = .ok (.getfield 12, 3) := by decide +kernel
theorem dX5_quarrel_50 : decode cX5_quarrel 50 = .ok (.iload_n 1, 1) := by decide +kernel
theorem dX5_quarrel_51 : decode cX5_quarrel 51 = .ok (.iload_n 2, 1) := by decide +kernel
theorem dX5_quarrel_52 : decode cX5_quarrel 52 = .ok (.iload_n 3, 1) := by decide +kernel
theorem dX5_quarrel_53 : decode cX5_quarrel 53 = .ok (.invokevirtual 80, 3) := by decide +kernel
theorem dX5_quarrel_56 : decode cX5_quarrel 56 = .ok (.iload 4, 2) := by decide +kernel
theorem dX5_quarrel_58 : decode cX5_quarrel 58 = .ok (.ireturn, 1) := by decide +kernel
set_option maxRecDepth 20000 in
theorem ggX5_reconcile_X5_arePeople : GoodIn wsX5_reconcile wsX5_arePeople := goodIn_r _ [6, 7, 8, 5, 9] (by decide +kernel) (by decide +kernel)
set_option maxRecDepth 20000 in
theorem gX5_reconcile_X5_arePeople : GoodIn wsX5_reconcile (va_wsS RX5 54 yX5_arePeople wsX5_arePeople) := goodIn_app (goodIn_of _ (by decide +kernel)) ggX5_reconcile_X5_arePeople
set_option maxRecDepth 20000 in
theorem ggX5_reconcile_X0_feudOf : GoodIn wsX5_reconcile wsX0_feudOf := goodIn_r _ [14, 15, 44] (by decide +kernel) (by decide +kernel)
set_option maxRecDepth 20000 in
theorem gX5_reconcile_X0_feudOf : GoodIn wsX5_reconcile (wsV RX5 76 RX0 yX0_feudOf wsX0_feudOf) := goodIn_app (goodIn_of _ (by decide +kernel)) ggX5_reconcile_X0_feudOf
set_option maxRecDepth 20000 in
theorem ggX5_reconcile_X1_keep : GoodIn wsX5_reconcile wsX1_keep := goodIn_r _ [20, 21, 22, 23, 24, 25, 26, 27, 28, 29, 30, 19, 31, 45, 46, 47, 44] (by decide +kernel) (by decide +kernel)
set_option maxRecDepth 20000 in
theorem gX5_reconcile_X1_keep : GoodIn wsX5_reconcile (wsV RX5 61 RX1 yX1_keep wsX1_keep) := goodIn_app (goodIn_of _ (by decide +kernel)) ggX5_reconcile_X1_keep
set_option maxRecDepth 20000 in
theorem ggX5_reconcile_X0_setFeud : GoodIn wsX5_reconcile wsX0_setFeud := goodIn_r _ [35, 15, 44] (by decide +kernel) (by decide +kernel)
set_option maxRecDepth 20000 in
theorem gX5_reconcile_X0_setFeud : GoodIn wsX5_reconcile (wsV RX5 80 RX0 yX0_setFeud wsX0_setFeud) := goodIn_app (goodIn_of _ (by decide +kernel)) ggX5_reconcile_X0_setFeud
theorem dX5_reconcile_0 : decode cX5_reconcile 0 = .ok (.iload_n 1, 1) := by decide +kernel
theorem dX5_reconcile_1 : decode cX5_reconcile 1 = .ok (.iload_n 2, 1) := by decide +kernel
theorem dX5_reconcile_2 : decode cX5_reconcile 2 = .ok (.invokestatic 54, 3) := by decide +kernel
theorem dX5_reconcile_5 : decode cX5_reconcile 5 = .ok (.ifCond .ne 5, 3) := by decide +kernel
theorem dX5_reconcile_8 : decode cX5_reconcile 8 = .ok (.iconst (-1), 1) := by decide +kernel
theorem dX5_reconcile_9 : decode cX5_reconcile 9 = .ok (.ireturn, 1) := by decide +kernel
theorem dX5_reconcile_10 : decode cX5_reconcile 10 = .ok (.aload_n 0, 1) := by decide +kernel
theorem dX5_reconcile_11 : decode cX5_reconcile 11 = .ok (.getfield 12, 3) := by decide +kernel
theorem dX5_reconcile_14 : decode cX5_reconcile 14 = .ok (.iload_n 1, 1) := by decide +kernel
theorem dX5_reconcile_15 : decode cX5_reconcile 15 = .ok (.iload_n 2, 1) := by decide +kernel
theorem dX5_reconcile_16 : decode cX5_reconcile 16 = .ok (.invokevirtual 76, 3) := by decide +kernel
theorem dX5_reconcile_19 : decode cX5_reconcile 19 = .ok (.istore_n 3, 1) := by decide +kernel
theorem dX5_reconcile_20 : decode cX5_reconcile 20 = .ok (.iload_n 3, 1) := by decide +kernel
theorem dX5_reconcile_21 : decode cX5_reconcile 21 = .ok (.ifCond .ne 6, 3) := by decide +kernel
theorem dX5_reconcile_24 : decode cX5_reconcile 24 = .ok (.bipush (-4), 2) := by decide +kernel
theorem dX5_reconcile_26 : decode cX5_reconcile 26 = .ok (.ireturn, 1) := by decide +kernel
theorem dX5_reconcile_27 : decode cX5_reconcile 27 = .ok (.aload_n 0, 1) := by decide +kernel
theorem dX5_reconcile_28 : decode cX5_reconcile 28 = .ok (.getfield 25, 3) := by decide +kernel
theorem dX5_reconcile_31 : decode cX5_reconcile 31 = .ok (.aload_n 0, 1) := by decide +kernel
theorem dX5_reconcile_32 : decode cX5_reconcile 32 = .ok (.getfield 12, 3) := by decide +kernel
theorem dX5_reconcile_35 : decode cX5_reconcile 35 = .ok (.invokevirtual 61, 3) := by decide +kernel
theorem dX5_reconcile_38 : decode cX5_reconcile 38 = .ok (.aload_n 0, 1) := by decide +kernel
theorem dX5_reconcile_39 : decode cX5_reconcile 39 = .ok (.getfield 12, 3) := by decide +kernel
theorem dX5_reconcile_42 : decode cX5_reconcile 42 = .ok (.iload_n 1, 1) := by decide +kernel
theorem dX5_reconcile_43 : decode cX5_reconcile 43 = .ok (.iload_n 2, 1) := by decide +kernel
theorem dX5_reconcile_44 : decode cX5_reconcile 44 = .ok (.iconst 0, 1) := by decide +kernel
theorem dX5_reconcile_45 : decode cX5_reconcile 45 = .ok (.invokevirtual 80, 3) := by decide +kernel
theorem dX5_reconcile_48 : decode cX5_reconcile 48 = .ok (.iload_n 3, 1) := by decide +kernel
theorem dX5_reconcile_49 : decode cX5_reconcile 49 = .ok (.ireturn, 1) := by decide +kernel
set_option maxRecDepth 20000 in
theorem ggX5_link_X5_isGate : GoodIn wsX5_link wsX5_isGate := goodIn_r _ [6] (by decide +kernel) (by decide +kernel)
set_option maxRecDepth 20000 in
theorem gX5_link_X5_isGate : GoodIn wsX5_link (va_wsS RX5 84 yX5_isGate wsX5_isGate) := goodIn_app (goodIn_of _ (by decide +kernel)) ggX5_link_X5_isGate
set_option maxRecDepth 20000 in
theorem ggX5_link_X1_keep : GoodIn wsX5_link wsX1_keep := goodIn_r _ [11, 12, 13, 14, 15, 16, 17, 18, 19, 20, 21, 10, 22, 46, 47, 48, 49] (by decide +kernel) (by decide +kernel)
set_option maxRecDepth 20000 in
theorem gX5_link_X1_keep : GoodIn wsX5_link (wsV RX5 61 RX1 yX1_keep wsX1_keep) := goodIn_app (goodIn_of _ (by decide +kernel)) ggX5_link_X1_keep
set_option maxRecDepth 20000 in
theorem ggX5_link_X0_areLinked : GoodIn wsX5_link wsX0_areLinked := goodIn_r _ [27, 28, 29, 5, 30, 49] (by decide +kernel) (by decide +kernel)
set_option maxRecDepth 20000 in
theorem gX5_link_X0_areLinked : GoodIn wsX5_link (wsV RX5 88 RX0 yX0_areLinked wsX0_areLinked) := goodIn_app (goodIn_of _ (by decide +kernel)) ggX5_link_X0_areLinked
set_option maxRecDepth 20000 in
theorem ggX5_link_X5_asNumber : GoodIn wsX5_link wsX5_asNumber := goodIn_r _ [33] (by decide +kernel) (by decide +kernel)
set_option maxRecDepth 20000 in
theorem gX5_link_X5_asNumber : GoodIn wsX5_link (va_wsS RX5 91 yX5_asNumber wsX5_asNumber) := goodIn_app (goodIn_of _ (by decide +kernel)) ggX5_link_X5_asNumber
set_option maxRecDepth 20000 in
theorem ggX5_link_X0_setLinked : GoodIn wsX5_link wsX0_setLinked := goodIn_r _ [37, 28, 49] (by decide +kernel) (by decide +kernel)
set_option maxRecDepth 20000 in
theorem gX5_link_X0_setLinked : GoodIn wsX5_link (wsV RX5 95 RX0 yX0_setLinked wsX0_setLinked) := goodIn_app (goodIn_of _ (by decide +kernel)) ggX5_link_X0_setLinked
theorem dX5_link_0 : decode cX5_link 0 = .ok (.iload_n 1, 1) := by decide +kernel
theorem dX5_link_1 : decode cX5_link 1 = .ok (.invokestatic 84, 3) := by decide +kernel
theorem dX5_link_4 : decode cX5_link 4 = .ok (.ifCond .eq 10, 3) := by decide +kernel
theorem dX5_link_7 : decode cX5_link 7 = .ok (.iload_n 2, 1) := by decide +kernel
theorem dX5_link_8 : decode cX5_link 8 = .ok (.invokestatic 84, 3) := by decide +kernel
theorem dX5_link_11 : decode cX5_link 11 = .ok (.ifCond .ne 5, 3) := by decide +kernel
theorem dX5_link_14 : decode cX5_link 14 = .ok (.iconst (-1), 1) := by decide +kernel
theorem dX5_link_15 : decode cX5_link 15 = .ok (.ireturn, 1) := by decide +kernel
theorem dX5_link_16 : decode cX5_link 16 = .ok (.aload_n 0, 1) := by decide +kernel
theorem dX5_link_17 : decode cX5_link 17 = .ok (.getfield 25, 3) := by decide +kernel
theorem dX5_link_20 : decode cX5_link 20 = .ok (.aload_n 0, 1) := by decide +kernel
theorem dX5_link_21 : decode cX5_link 21 = .ok (.getfield 12, 3) := by decide +kernel
theorem dX5_link_24 : decode cX5_link 24 = .ok (.invokevirtual 61, 3) := by decide +kernel
theorem dX5_link_27 : decode cX5_link 27 = .ok (.aload_n 0, 1) := by decide +kernel
theorem dX5_link_28 : decode cX5_link 28 = .ok (.getfield 12, 3) := by decide +kernel
theorem dX5_link_31 : decode cX5_link 31 = .ok (.iload_n 1, 1) := by decide +kernel
theorem dX5_link_32 : decode cX5_link 32 = .ok (.iload_n 2, 1) := by decide +kernel
theorem dX5_link_33 : decode cX5_link 33 = .ok (.invokevirtual 88, 3) := by decide +kernel
theorem dX5_link_36 : decode cX5_link 36 = .ok (.invokestatic 91, 3) := by decide +kernel
theorem dX5_link_39 : decode cX5_link 39 = .ok (.istore 4, 2) := by decide +kernel
theorem dX5_link_41 : decode cX5_link 41 = .ok (.aload_n 0, 1) := by decide +kernel
theorem dX5_link_42 : decode cX5_link 42 = .ok (.getfield 12, 3) := by decide +kernel
theorem dX5_link_45 : decode cX5_link 45 = .ok (.iload_n 1, 1) := by decide +kernel
theorem dX5_link_46 : decode cX5_link 46 = .ok (.iload_n 2, 1) := by decide +kernel
theorem dX5_link_47 : decode cX5_link 47 = .ok (.iload_n 3, 1) := by decide +kernel
theorem dX5_link_48 : decode cX5_link 48 = .ok (.invokevirtual 95, 3) := by decide +kernel
theorem dX5_link_51 : decode cX5_link 51 = .ok (.iload 4, 2) := by decide +kernel
theorem dX5_link_53 : decode cX5_link 53 = .ok (.ireturn, 1) := by decide +kernel
set_option maxRecDepth 20000 in
theorem ggX5_move_X5_isPerson : GoodIn wsX5_move wsX5_isPerson := goodIn_r _ [6] (by decide +kernel) (by decide +kernel)
set_option maxRecDepth 20000 in
theorem gX5_move_X5_isPerson : GoodIn wsX5_move (va_wsS RX5 99 yX5_isPerson wsX5_isPerson) := goodIn_app (goodIn_of _ (by decide +kernel)) ggX5_move_X5_isPerson
set_option maxRecDepth 20000 in
theorem ggX5_move_X5_isGate : GoodIn wsX5_move wsX5_isGate := goodIn_r _ [9] (by decide +kernel) (by decide +kernel)
set_option maxRecDepth 20000 in
theorem gX5_move_X5_isGate : GoodIn wsX5_move (va_wsS RX5 84 yX5_isGate wsX5_isGate) := goodIn_app (goodIn_of _ (by decide +kernel)) ggX5_move_X5_isGate
set_option maxRecDepth 20000 in
theorem ggX5_move_X1_keep : GoodIn wsX5_move wsX1_keep := goodIn_r _ [14, 15, 16, 17, 18, 19, 20, 21, 22, 23, 24, 13, 25, 44, 45, 46, 47] (by decide +kernel) (by decide +kernel)
set_option maxRecDepth 20000 in
theorem gX5_move_X1_keep : GoodIn wsX5_move (wsV RX5 61 RX1 yX1_keep wsX1_keep) := goodIn_app (goodIn_of _ (by decide +kernel)) ggX5_move_X1_keep
set_option maxRecDepth 20000 in
theorem ggX5_move_X0_gateOf : GoodIn wsX5_move wsX0_gateOf := goodIn_r _ [30, 31, 47] (by decide +kernel) (by decide +kernel)
set_option maxRecDepth 20000 in
theorem gX5_move_X0_gateOf : GoodIn wsX5_move (wsV RX5 102 RX0 yX0_gateOf wsX0_gateOf) := goodIn_app (goodIn_of _ (by decide +kernel)) ggX5_move_X0_gateOf
set_option maxRecDepth 20000 in
theorem ggX5_move_X0_setGate : GoodIn wsX5_move wsX0_setGate := goodIn_r _ [35, 31, 47] (by decide +kernel) (by decide +kernel)
set_option maxRecDepth 20000 in
theorem gX5_move_X0_setGate : GoodIn wsX5_move (wsV RX5 106 RX0 yX0_setGate wsX0_setGate) := goodIn_app (goodIn_of _ (by decide +kernel)) ggX5_move_X0_setGate
theorem dX5_move_0 : decode cX5_move 0 = .ok (.iload_n 2, 1) := by decide +kernel
theorem dX5_move_1 : decode cX5_move 1 = .ok (.invokestatic 99, 3) := by decide +kernel
theorem dX5_move_4 : decode cX5_move 4 = .ok (.ifCond .eq 10, 3) := by decide +kernel
theorem dX5_move_7 : decode cX5_move 7 = .ok (.iload_n 3, 1) := by decide +kernel
theorem dX5_move_8 : decode cX5_move 8 = .ok (.invokestatic 84, 3) := by decide +kernel
theorem dX5_move_11 : decode cX5_move 11 = .ok (.ifCond .ne 5, 3) := by decide +kernel
theorem dX5_move_14 : decode cX5_move 14 = .ok (.iconst (-1), 1) := by decide +kernel
theorem dX5_move_15 : decode cX5_move 15 = .ok (.ireturn, 1) := by decide +kernel
theorem dX5_move_16 : decode cX5_move 16 = .ok (.aload_n 0, 1) := by decide +kernel
theorem dX5_move_17 : decode cX5_move 17 = .ok (.getfield 25, 3) := by decide +kernel
theorem dX5_move_20 : decode cX5_move 20 = .ok (.aload_n 0, 1) := by decide +kernel
theorem dX5_move_21 : decode cX5_move 21 = .ok (.getfield 12, 3) := by decide +kernel
theorem dX5_move_24 : decode cX5_move 24 = .ok (.invokevirtual 61, 3) := by decide +kernel
theorem dX5_move_27 : decode cX5_move 27 = .ok (.aload_n 0, 1) := by decide +kernel
theorem dX5_move_28 : decode cX5_move 28 = .ok (.getfield 12, 3) := by decide +kernel
theorem dX5_move_31 : decode cX5_move 31 = .ok (.iload_n 1, 1) := by decide +kernel
theorem dX5_move_32 : decode cX5_move 32 = .ok (.iload_n 2, 1) := by decide +kernel
theorem dX5_move_33 : decode cX5_move 33 = .ok (.invokevirtual 102, 3) := by decide +kernel
theorem dX5_move_36 : decode cX5_move 36 = .ok (.istore 4, 2) := by decide +kernel
theorem dX5_move_38 : decode cX5_move 38 = .ok (.aload_n 0, 1) := by decide +kernel
theorem dX5_move_39 : decode cX5_move 39 = .ok (.getfield 12, 3) := by decide +kernel
theorem dX5_move_42 : decode cX5_move 42 = .ok (.iload_n 1, 1) := by decide +kernel
theorem dX5_move_43 : decode cX5_move 43 = .ok (.iload_n 2, 1) := by decide +kernel
theorem dX5_move_44 : decode cX5_move 44 = .ok (.iload_n 3, 1) := by decide +kernel
theorem dX5_move_45 : decode cX5_move 45 = .ok (.invokevirtual 106, 3) := by decide +kernel
theorem dX5_move_48 : decode cX5_move 48 = .ok (.iload 4, 2) := by decide +kernel
theorem dX5_move_50 : decode cX5_move 50 = .ok (.ireturn, 1) := by decide +kernel
set_option maxRecDepth 20000 in
theorem ggX5_round_X1_keep : GoodIn wsX5_round wsX1_keep := goodIn_r _ [7, 8, 9, 10, 11, 12, 13, 14, 15, 16, 17, 6, 18, 120, 121, 122, 123] (by decide +kernel) (by decide +kernel)
set_option maxRecDepth 20000 in
theorem gX5_round_X1_keep : GoodIn wsX5_round (wsV RX5 61 RX1 yX1_keep wsX1_keep) := goodIn_app (goodIn_of _ (by decide +kernel)) ggX5_round_X1_keep
set_option maxRecDepth 20000 in
theorem ggX5_round_X5_makeRound : GoodIn wsX5_round wsX5_makeRound := goodIn_r _ [23, 24, 25, 26, 27, 28, 29, 30, 31, 32, 33, 34, 35, 36, 37, 38, 39, 40, 41, 42, 43, 44, 45, 46, 47, 48, 49, 50, 51, 22, 52, 53, 54, 55, 56, 57, 58, 59, 60, 61, 62, 63, 64, 65, 66, 67, 68, 69, 70, 71, 72, 73, 74, 75, 76, 77, 78, 79, 80, 81, 82, 83, 84, 85, 86, 87, 88, 89, 90, 91, 92, 93, 94, 95, 96, 97, 98, 99, 100, 101, 102, 103, 104, 105, 106, 107, 108, 109, 110, 111, 112, 113, 114, 115, 116, 117, 118, 119, 124, 125, 126, 127, 128, 123] (by decide +kernel) (by decide +kernel)
set_option maxRecDepth 20000 in
theorem gX5_round_X5_makeRound : GoodIn wsX5_round (wsV RX5 110 RX5 yX5_makeRound wsX5_makeRound) := goodIn_app (goodIn_of _ (by decide +kernel)) ggX5_round_X5_makeRound
theorem dX5_round_0 : decode cX5_round 0 = .ok (.aload_n 0, 1) := by decide +kernel
theorem dX5_round_1 : decode cX5_round 1 = .ok (.getfield 25, 3) := by decide +kernel
theorem dX5_round_4 : decode cX5_round 4 = .ok (.aload_n 0, 1) := by decide +kernel
theorem dX5_round_5 : decode cX5_round 5 = .ok (.getfield 12, 3) := by decide +kernel
theorem dX5_round_8 : decode cX5_round 8 = .ok (.invokevirtual 61, 3) := by decide +kernel
theorem dX5_round_11 : decode cX5_round 11 = .ok (.aload_n 0, 1) := by decide +kernel
theorem dX5_round_12 : decode cX5_round 12 = .ok (.aload_n 0, 1) := by decide +kernel
theorem dX5_round_13 : decode cX5_round 13 = .ok (.getfield 12, 3) := by decide +kernel
theorem dX5_round_16 : decode cX5_round 16 = .ok (.invokevirtual 110, 3) := by decide +kernel
theorem dX5_round_19 : decode cX5_round 19 = .ok (.ireturn, 1) := by decide +kernel
set_option maxRecDepth 20000 in
theorem ggX5_undo_X1_size : GoodIn wsX5_undo wsX1_size := goodIn_r _ [7, 8, 31, 32, 33] (by decide +kernel) (by decide +kernel)
set_option maxRecDepth 20000 in
theorem gX5_undo_X1_size : GoodIn wsX5_undo (wsV RX5 138 RX1 yX1_size wsX1_size) := goodIn_app (goodIn_of _ (by decide +kernel)) ggX5_undo_X1_size
set_option maxRecDepth 20000 in
theorem ggX5_undo_X1_takeLatest : GoodIn wsX5_undo wsX1_takeLatest := goodIn_r _ [12, 8, 13, 14, 15, 16, 17, 18, 19, 20, 6, 21, 22, 31, 32, 33, 34] (by decide +kernel) (by decide +kernel)
set_option maxRecDepth 20000 in
theorem gX5_undo_X1_takeLatest : GoodIn wsX5_undo (wsV RX5 141 RX1 yX1_takeLatest wsX1_takeLatest) := goodIn_app (goodIn_of _ (by decide +kernel)) ggX5_undo_X1_takeLatest
theorem dX5_undo_0 : decode cX5_undo 0 = .ok (.aload_n 0, 1) := by decide +kernel
theorem dX5_undo_1 : decode cX5_undo 1 = .ok (.getfield 25, 3) := by decide +kernel
theorem dX5_undo_4 : decode cX5_undo 4 = .ok (.invokevirtual 138, 3) := by decide +kernel
theorem dX5_undo_7 : decode cX5_undo 7 = .ok (.ifCond .ne 6, 3) := by decide +kernel
theorem dX5_undo_10 : decode cX5_undo 10 = .ok (.bipush (-5), 2) := by decide +kernel
theorem dX5_undo_12 : decode cX5_undo 12 = .ok (.ireturn, 1) := by decide +kernel
theorem dX5_undo_13 : decode cX5_undo 13 = .ok (.aload_n 0, 1) := by decide +kernel
theorem dX5_undo_14 : decode cX5_undo 14 = .ok (.getfield 25, 3) := by decide +kernel
theorem dX5_undo_17 : decode cX5_undo 17 = .ok (.aload_n 0, 1) := by decide +kernel
theorem dX5_undo_18 : decode cX5_undo 18 = .ok (.getfield 12, 3) := by decide +kernel
theorem dX5_undo_21 : decode cX5_undo 21 = .ok (.invokevirtual 141, 3) := by decide +kernel
theorem dX5_undo_24 : decode cX5_undo 24 = .ok (.aload_n 0, 1) := by decide +kernel
theorem dX5_undo_25 : decode cX5_undo 25 = .ok (.getfield 25, 3) := by decide +kernel
