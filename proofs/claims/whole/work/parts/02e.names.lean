set_option maxRecDepth 20000 in
theorem ggX5_withdraw_X1_keep : GoodIn wsX5_withdraw wsX1_keep := goodIn_r _ [22, 23, 24, 25, 26, 27, 28, 29, 30, 31, 32, 21, 33, 58, 59, 60, 57] (by decide +kernel) (by decide +kernel)
set_option maxRecDepth 20000 in
theorem gX5_withdraw_X1_keep : GoodIn wsX5_withdraw (wsV RX5 61 RX1 yX1_keep wsX1_keep) := goodIn_app (goodIn_of _ (by decide +kernel)) ggX5_withdraw_X1_keep
set_option maxRecDepth 20000 in
theorem ggX5_withdraw_X0_closeWish : GoodIn wsX5_withdraw wsX0_closeWish := goodIn_r _ [37, 15, 57] (by decide +kernel) (by decide +kernel)
set_option maxRecDepth 20000 in
theorem gX5_withdraw_X0_closeWish : GoodIn wsX5_withdraw (wsV RX5 73 RX0 yX0_closeWish wsX0_closeWish) := goodIn_app (goodIn_of _ (by decide +kernel)) ggX5_withdraw_X0_closeWish
set_option maxRecDepth 20000 in
theorem ggX5_withdraw_X0_numberOfWishes : GoodIn wsX5_withdraw wsX0_numberOfWishes := goodIn_r _ [41, 15, 42, 43, 44, 45, 46, 47, 48, 57] (by decide +kernel) (by decide +kernel)
set_option maxRecDepth 20000 in
theorem gX5_withdraw_X0_numberOfWishes : GoodIn wsX5_withdraw (wsV RX5 69 RX0 yX0_numberOfWishes wsX0_numberOfWishes) := goodIn_app (goodIn_of _ (by decide +kernel)) ggX5_withdraw_X0_numberOfWishes
theorem dX5_withdraw_0 : decode cX5_withdraw 0 = .ok (.iload_n 1, 1) := by decide +kernel
theorem dX5_withdraw_1 : decode cX5_withdraw 1 = .ok (.iload_n 2, 1) := by decide +kernel
theorem dX5_withdraw_2 : decode cX5_withdraw 2 = .ok (.invokestatic 54, 3) := by decide +kernel
theorem dX5_withdraw_5 : decode cX5_withdraw 5 = .ok (.ifCond .ne 5, 3) := by decide +kernel
theorem dX5_withdraw_8 : decode cX5_withdraw 8 = .ok (.iconst (-1), 1) := by decide +kernel
theorem dX5_withdraw_9 : decode cX5_withdraw 9 = .ok (.ireturn, 1) := by decide +kernel
theorem dX5_withdraw_10 : decode cX5_withdraw 10 = .ok (.aload_n 0, 1) := by decide +kernel
theorem dX5_withdraw_11 : decode cX5_withdraw 11 = .ok (.getfield 12, 3) := by decide +kernel
theorem dX5_withdraw_14 : decode cX5_withdraw 14 = .ok (.iload_n 1, 1) := by decide +kernel
theorem dX5_withdraw_15 : decode cX5_withdraw 15 = .ok (.iload_n 2, 1) := by decide +kernel
theorem dX5_withdraw_16 : decode cX5_withdraw 16 = .ok (.invokevirtual 58, 3) := by decide +kernel
theorem dX5_withdraw_19 : decode cX5_withdraw 19 = .ok (.ifCond .ne 6, 3) := by decide +kernel
theorem dX5_withdraw_22 : decode cX5_withdraw 22 = .ok (.bipush (-4), 2) := by decide +kernel
theorem dX5_withdraw_24 : decode cX5_withdraw 24 = .ok (.ireturn, 1) := by decide +kernel
theorem dX5_withdraw_25 : decode cX5_withdraw 25 = .ok (.aload_n 0, 1) := by decide +kernel
theorem dX5_withdraw_26 : decode cX5_withdraw 26 = .ok (.getfield 25, 3) := by decide +kernel
theorem dX5_withdraw_29 : decode cX5_withdraw 29 = .ok (.aload_n 0, 1) := by decide +kernel
theorem dX5_withdraw_30 : decode cX5_withdraw 30 = .ok (.getfield 12, 3) := by decide +kernel
theorem dX5_withdraw_33 : decode cX5_withdraw 33 = .ok (.invokevirtual 61, 3) := by decide +kernel
theorem dX5_withdraw_36 : decode cX5_withdraw 36 = .ok (.aload_n 0, 1) := by decide +kernel
theorem dX5_withdraw_37 : decode cX5_withdraw 37 = .ok (.getfield 12, 3) := by decide +kernel
theorem dX5_withdraw_40 : decode cX5_withdraw 40 = .ok (.iload_n 1, 1) := by decide +kernel
theorem dX5_withdraw_41 : decode cX5_withdraw 41 = .ok (.iload_n 2, 1) := by decide +kernel
theorem dX5_withdraw_42 : decode cX5_withdraw 42 = .ok (.invokevirtual 73, 3) := by decide +kernel
theorem dX5_withdraw_45 : decode cX5_withdraw 45 = .ok (.aload_n 0, 1) := by decide +kernel
theorem dX5_withdraw_46 : decode cX5_withdraw 46 = .ok (.getfield 12, 3) := by decide +kernel
theorem dX5_withdraw_49 : decode cX5_withdraw 49 = .ok (.invokevirtual 69, 3) := by decide +kernel
theorem dX5_withdraw_52 : decode cX5_withdraw 52 = .ok (.ireturn, 1) := by decide +kernel
set_option maxRecDepth 20000 in
theorem ggX5_quarrel_X5_arePeople : GoodIn wsX5_quarrel wsX5_arePeople := goodIn_r _ [6, 7, 8, 5, 9] (by decide +kernel) (by decide +kernel)
set_option maxRecDepth 20000 in
theorem gX5_quarrel_X5_arePeople : GoodIn wsX5_quarrel (va_wsS RX5 54 yX5_arePeople wsX5_arePeople) := goodIn_app (goodIn_of _ (by decide +kernel)) ggX5_quarrel_X5_arePeople
set_option maxRecDepth 20000 in
theorem ggX5_quarrel_X1_keep : GoodIn wsX5_quarrel wsX1_keep := goodIn_r _ [14, 15, 16, 17, 18, 19, 20, 21, 22, 23, 24, 13, 25, 44, 45, 46, 47] (by decide +kernel) (by decide +kernel)
set_option maxRecDepth 20000 in
theorem gX5_quarrel_X1_keep : GoodIn wsX5_quarrel (wsV RX5 61 RX1 yX1_keep wsX1_keep) := goodIn_app (goodIn_of _ (by decide +kernel)) ggX5_quarrel_X1_keep
set_option maxRecDepth 20000 in
theorem ggX5_quarrel_X0_feudOf : GoodIn wsX5_quarrel wsX0_feudOf := goodIn_r _ [30, 31, 47] (by decide +kernel) (by decide +kernel)
set_option maxRecDepth 20000 in
theorem gX5_quarrel_X0_feudOf : GoodIn wsX5_quarrel (wsV RX5 76 RX0 yX0_feudOf wsX0_feudOf) := goodIn_app (goodIn_of _ (by decide +kernel)) ggX5_quarrel_X0_feudOf
set_option maxRecDepth 20000 in
theorem ggX5_quarrel_X0_setFeud : GoodIn wsX5_quarrel wsX0_setFeud := goodIn_r _ [35, 31, 47] (by decide +kernel) (by decide +kernel)
set_option maxRecDepth 20000 in
theorem gX5_quarrel_X0_setFeud : GoodIn wsX5_quarrel (wsV RX5 80 RX0 yX0_setFeud wsX0_setFeud) := goodIn_app (goodIn_of _ (by decide +kernel)) ggX5_quarrel_X0_setFeud
theorem dX5_quarrel_0 : decode cX5_quarrel 0 = .ok (.iload_n 1, 1) := by decide +kernel
theorem dX5_quarrel_1 : decode cX5_quarrel 1 = .ok (.iload_n 2, 1) := by decide +kernel
theorem dX5_quarrel_2 : decode cX5_quarrel 2 = .ok (.invokestatic 54, 3) := by decide +kernel
theorem dX5_quarrel_5 : decode cX5_quarrel 5 = .ok (.ifCond .ne 5, 3) := by decide +kernel
theorem dX5_quarrel_8 : decode cX5_quarrel 8 = .ok (.iconst (-1), 1) := by decide +kernel
theorem dX5_quarrel_9 : decode cX5_quarrel 9 = .ok (.ireturn, 1) := by decide +kernel
theorem dX5_quarrel_10 : decode cX5_quarrel 10 = .ok (.iload_n 3, 1) := by decide +kernel
theorem dX5_quarrel_11 : decode cX5_quarrel 11 = .ok (.iconst 1, 1) := by decide +kernel
theorem dX5_quarrel_12 : decode cX5_quarrel 12 = .ok (.if_icmp .lt 9, 3) := by decide +kernel
theorem dX5_quarrel_15 : decode cX5_quarrel 15 = .ok (.iload_n 3, 1) := by decide +kernel
theorem dX5_quarrel_16 : decode cX5_quarrel 16 = .ok (.bipush 50, 2) := by decide +kernel
theorem dX5_quarrel_18 : decode cX5_quarrel 18 = .ok (.if_icmp .le 6, 3) := by decide +kernel
theorem dX5_quarrel_21 : decode cX5_quarrel 21 = .ok (.bipush (-2), 2) := by decide +kernel
theorem dX5_quarrel_23 : decode cX5_quarrel 23 = .ok (.ireturn, 1) := by decide +kernel
theorem dX5_quarrel_24 : decode cX5_quarrel 24 = .ok (.aload_n 0, 1) := by decide +kernel
theorem dX5_quarrel_25 : decode cX5_quarrel 25 = .ok (.getfield 25, 3) := by decide +kernel
theorem dX5_quarrel_28 : decode cX5_quarrel 28 = .ok (.aload_n 0, 1) := by decide +kernel
theorem dX5_quarrel_29 : decode cX5_quarrel 29 = .ok (.getfield 12, 3) := by decide +kernel
theorem dX5_quarrel_32 : decode cX5_quarrel 32 = .ok (.invokevirtual 61, 3) := by decide +kernel
theorem dX5_quarrel_35 : decode cX5_quarrel 35 = .ok (.aload_n 0, 1) := by decide +kernel
theorem dX5_quarrel_36 : decode cX5_quarrel 36 = .ok (.getfield 12, 3) := by decide +kernel
theorem dX5_quarrel_39 : decode cX5_quarrel 39 = .ok (.iload_n 1, 1) := by decide +kernel
theorem dX5_quarrel_40 : decode cX5_quarrel 40 = .ok (.iload_n 2, 1) := by decide +kernel
theorem dX5_quarrel_41 : decode cX5_quarrel 41 = .ok (.invokevirtual 76, 3) := by decide +kernel
theorem dX5_quarrel_44 : decode cX5_quarrel 44 = .ok (.istore 4, 2) := by decide +kernel
theorem dX5_quarrel_46 : decode cX5_quarrel 46 = .ok (.aload_n 0, 1) := by decide +kernel
theorem dX5_quarrel_47 : decode cX5_quarrel 47 = .ok (.getfield 12, 3) := by decide +kernel
theorem dX5_quarrel_50 : decode cX5_quarrel 50 = .ok (.iload_n 1, 1) := by decide +kernel
theorem dX5_quarrel_51 : decode cX5_quarrel 51 = .ok (.iload_n 2, 1) := by decide +kernel
theorem dX5_quarrel_52 : decode cX5_quarrel 52 = .ok (.iload_n 3, 1) := by decide +kernel
theorem dX5_quarrel_53 : decode cX5_quarrel 53 = .ok (.invokevirtual 80, 3) := by decide +kernel
theorem dX5_quarrel_56 : decode cX5_quarrel 56 = .ok (.iload 4, 2) := by decide +kernel
theorem dX5_quarrel_58 : decode cX5_quarrel 58 = .ok (.ireturn, 1) := by decide +kernel
set_option maxRecDepth 20000 in
theorem ggX5_reconcile_X5_arePeople : GoodIn wsX5_reconcile wsX5_arePeople := goodIn_r _ [6, 7, 8, 5, 9] (by decide +kernel) (by decide +kernel)
set_option maxRecDepth 20000 in
theorem gX5_reconcile_X5_arePeople : GoodIn wsX5_reconcile (va_wsS RX5 54 yX5_arePeople wsX5_arePeople) := goodIn_app (goodIn_of _ (by decide +kernel)) ggX5_reconcile_X5_arePeople
set_option maxRecDepth 20000 in
theorem ggX5_reconcile_X0_feudOf : GoodIn wsX5_reconcile wsX0_feudOf := goodIn_r _ [14, 15, 44] (by decide +kernel) (by decide +kernel)
set_option maxRecDepth 20000 in
theorem gX5_reconcile_X0_feudOf : GoodIn wsX5_reconcile (wsV RX5 76 RX0 yX0_feudOf wsX0_feudOf) := goodIn_app (goodIn_of _ (by decide +kernel)) ggX5_reconcile_X0_feudOf
set_option maxRecDepth 20000 in
theorem ggX5_reconcile_X1_keep : GoodIn wsX5_reconcile wsX1_keep := goodIn_r _ [20, 21, 22, 23, 24, 25, 26, 27, 28, 29, 30, 19, 31, 45, 46, 47, 44] (by decide +kernel) (by decide +kernel)
set_option maxRecDepth 20000 in
theorem gX5_reconcile_X1_keep : GoodIn wsX5_reconcile (wsV RX5 61 RX1 yX1_keep wsX1_keep) := goodIn_app (goodIn_of _ (by decide +kernel)) ggX5_reconcile_X1_keep
set_option maxRecDepth 20000 in
theorem ggX5_reconcile_X0_setFeud : GoodIn wsX5_reconcile wsX0_setFeud := goodIn_r _ [35, 15, 44] (by decide +kernel) (by decide +kernel)
set_option maxRecDepth 20000 in
theorem gX5_reconcile_X0_setFeud : GoodIn wsX5_reconcile (wsV RX5 80 RX0 yX0_setFeud wsX0_setFeud) := goodIn_app (goodIn_of _ (by decide +kernel)) ggX5_reconcile_X0_setFeud
theorem dX5_reconcile_0 : decode cX5_reconcile 0 = .ok (.iload_n 1, 1) := by decide +kernel
theorem dX5_reconcile_1 : decode cX5_reconcile 1 = .ok (.iload_n 2, 1) := by decide +kernel
theorem dX5_reconcile_2 : decode cX5_reconcile 2 = .ok (.invokestatic 54, 3) := by decide +kernel
theorem dX5_reconcile_5 : decode cX5_reconcile 5 = .ok (.ifCond .ne 5, 3) := by decide +kernel
theorem dX5_reconcile_8 : decode cX5_reconcile 8 = .ok (.iconst (-1), 1) := by decide +kernel
theorem dX5_reconcile_9 : decode cX5_reconcile 9 = .ok (.ireturn, 1) := by decide +kernel
theorem dX5_reconcile_10 : decode cX5_reconcile 10 = .ok (.aload_n 0, 1) := by decide +kernel
theorem dX5_reconcile_11 : decode cX5_reconcile 11 = .ok (.getfield 12, 3) := by decide +kernel
theorem dX5_reconcile_14 : decode cX5_reconcile 14 = .ok (.iload_n 1, 1) := by decide +kernel
theorem dX5_reconcile_15 : decode cX5_reconcile 15 = .ok (.iload_n 2, 1) := by decide +kernel
theorem dX5_reconcile_16 : decode cX5_reconcile 16 = .ok (.invokevirtual 76, 3) := by decide +kernel
theorem dX5_reconcile_19 : decode cX5_reconcile 19 = .ok (.istore_n 3, 1) := by decide +kernel
theorem dX5_reconcile_20 : decode cX5_reconcile 20 = .ok (.iload_n 3, 1) := by decide +kernel
theorem dX5_reconcile_21 : decode cX5_reconcile 21 = .ok (.ifCond .ne 6, 3) := by decide +kernel
theorem dX5_reconcile_24 : decode cX5_reconcile 24 = .ok (.bipush (-4), 2) := by decide +kernel
theorem dX5_reconcile_26 : decode cX5_reconcile 26 = .ok (.ireturn, 1) := by decide +kernel
theorem dX5_reconcile_27 : decode cX5_reconcile 27 = .ok (.aload_n 0, 1) := by decide +kernel
theorem dX5_reconcile_28 : decode cX5_reconcile 28 = .ok (.getfield 25, 3) := by decide +kernel
theorem dX5_reconcile_31 : decode cX5_reconcile 31 = .ok (.aload_n 0, 1) := by decide +kernel
theorem dX5_reconcile_32 : decode cX5_reconcile 32 = .ok (.getfield 12, 3) := by decide +kernel
theorem dX5_reconcile_35 : decode cX5_reconcile 35 = .ok (.invokevirtual 61, 3) := by decide +kernel
theorem dX5_reconcile_38 : decode cX5_reconcile 38 = .ok (.aload_n 0, 1) := by decide +kernel
theorem dX5_reconcile_39 : decode cX5_reconcile 39 = .ok (.getfield 12, 3) := by decide +kernel
theorem dX5_reconcile_42 : decode cX5_reconcile 42 = .ok (.iload_n 1, 1) := by decide +kernel
theorem dX5_reconcile_43 : decode cX5_reconcile 43 = .ok (.iload_n 2, 1) := by decide +kernel
theorem dX5_reconcile_44 : decode cX5_reconcile 44 = .ok (.iconst 0, 1) := by decide +kernel
theorem dX5_reconcile_45 : decode cX5_reconcile 45 = .ok (.invokevirtual 80, 3) := by decide +kernel
theorem dX5_reconcile_48 : decode cX5_reconcile 48 = .ok (.iload_n 3, 1) := by decide +kernel
theorem dX5_reconcile_49 : decode cX5_reconcile 49 = .ok (.ireturn, 1) := by decide +kernel
set_option maxRecDepth 20000 in
theorem ggX5_link_X5_isGate : GoodIn wsX5_link wsX5_isGate := goodIn_r _ [6] (by decide +kernel) (by decide +kernel)
set_option maxRecDepth 20000 in
theorem gX5_link_X5_isGate : GoodIn wsX5_link (va_wsS RX5 84 yX5_isGate wsX5_isGate) := goodIn_app (goodIn_of _ (by decide +kernel)) ggX5_link_X5_isGate
set_option maxRecDepth 20000 in
theorem ggX5_link_X1_keep : GoodIn wsX5_link wsX1_keep := goodIn_r _ [11, 12, 13, 14, 15, 16, 17, 18, 19, 20, 21, 10, 22, 46, 47, 48, 49] (by decide +kernel) (by decide +kernel)
set_option maxRecDepth 20000 in
theorem gX5_link_X1_keep : GoodIn wsX5_link (wsV RX5 61 RX1 yX1_keep wsX1_keep) := goodIn_app (goodIn_of _ (by decide +kernel)) ggX5_link_X1_keep
set_option maxRecDepth 20000 in
theorem ggX5_link_X0_areLinked : GoodIn wsX5_link wsX0_areLinked := goodIn_r _ [27, 28, 29, 5, 30, 49] (by decide +kernel) (by decide +kernel)
set_option maxRecDepth 20000 in
theorem gX5_link_X0_areLinked : GoodIn wsX5_link (wsV RX5 88 RX0 yX0_areLinked wsX0_areLinked) := goodIn_app (goodIn_of _ (by decide +kernel)) ggX5_link_X0_areLinked
set_option maxRecDepth 20000 in
theorem ggX5_link_X5_asNumber : GoodIn wsX5_link wsX5_asNumber := goodIn_r _ [33] (by decide +kernel) (by decide +kernel)
set_option maxRecDepth 20000 in
theorem gX5_link_X5_asNumber : GoodIn wsX5_link (va_wsS RX5 91 yX5_asNumber wsX5_asNumber) := goodIn_app (goodIn_of _ (by decide +kernel)) ggX5_link_X5_asNumber
set_option maxRecDepth 20000 in
theorem ggX5_link_X0_setLinked : GoodIn wsX5_link wsX0_setLinked := goodIn_r _ [37, 28, 49] (by decide +kernel) (by decide +kernel)
set_option maxRecDepth 20000 in
theorem gX5_link_X0_setLinked : GoodIn wsX5_link (wsV RX5 95 RX0 yX0_setLinked wsX0_setLinked) := goodIn_app (goodIn_of _ (by decide +kernel)) ggX5_link_X0_setLinked
theorem dX5_link_0 : decode cX5_link 0 = .ok (.iload_n 1, 1) := by decide +kernel
theorem dX5_link_1 : decode cX5_link 1 = .ok (.invokestatic 84, 3) := by decide +kernel
theorem dX5_link_4 : decode cX5_link 4 = .ok (.ifCond .eq 10, 3) := by decide +kernel
theorem dX5_link_7 : decode cX5_link 7 = .ok (.iload_n 2, 1) := by decide +kernel
theorem dX5_link_8 : decode cX5_link 8 = .ok (.invokestatic 84, 3) := by decide +kernel
theorem dX5_link_11 : decode cX5_link 11 = .ok (.ifCond .ne 5, 3) := by decide +kernel
theorem dX5_link_14 : decode cX5_link 14 = .ok (.iconst (-1), 1) := by decide +kernel
theorem dX5_link_15 : decode cX5_link 15 = .ok (.ireturn, 1) := by decide +kernel
theorem dX5_link_16 : decode cX5_link 16 = .ok (.aload_n 0, 1) := by decide +kernel
theorem dX5_link_17 : decode cX5_link 17 = .ok (.getfield 25, 3) := by decide +kernel
theorem dX5_link_20 : decode cX5_link 20 = .ok (.aload_n 0, 1) := by decide +kernel
theorem dX5_link_21 : decode cX5_link 21 = .ok (.getfield 12, 3) := by decide +kernel
theorem dX5_link_24 : decode cX5_link 24 = .ok (.invokevirtual 61, 3) := by decide +kernel
theorem dX5_link_27 : decode cX5_link 27 = .ok (.aload_n 0, 1) := by decide +kernel
theorem dX5_link_28 : decode cX5_link 28 = .ok (.getfield 12, 3) := by decide +kernel
theorem dX5_link_31 : decode cX5_link 31 = .ok (.iload_n 1, 1) := by decide +kernel
theorem dX5_link_32 : decode cX5_link 32 = .ok (.iload_n 2, 1) := by decide +kernel
theorem dX5_link_33 : decode cX5_link 33 = .ok (.invokevirtual 88, 3) := by decide +kernel
theorem dX5_link_36 : decode cX5_link 36 = .ok (.invokestatic 91, 3) := by decide +kernel
theorem dX5_link_39 : decode cX5_link 39 = .ok (.istore 4, 2) := by decide +kernel
theorem dX5_link_41 : decode cX5_link 41 = .ok (.aload_n 0, 1) := by decide +kernel
theorem dX5_link_42 : decode cX5_link 42 = .ok (.getfield 12, 3) := by decide +kernel
theorem dX5_link_45 : decode cX5_link 45 = .ok (.iload_n 1, 1) := by decide +kernel
theorem dX5_link_46 : decode cX5_link 46 = .ok (.iload_n 2, 1) := by decide +kernel
theorem dX5_link_47 : decode cX5_link 47 = .ok (.iload_n 3, 1) := by decide +kernel
theorem dX5_link_48 : decode cX5_link 48 = .ok (.invokevirtual 95, 3) := by decide +kernel
theorem dX5_link_51 : decode cX5_link 51 = .ok (.iload 4, 2) := by decide +kernel
theorem dX5_link_53 : decode cX5_link 53 = .ok (.ireturn, 1) := by decide +kernel
set_option maxRecDepth 20000 in
theorem ggX5_move_X5_isPerson : GoodIn wsX5_move wsX5_isPerson := goodIn_r _ [6] (by decide +kernel) (by decide +kernel)
set_option maxRecDepth 20000 in
theorem gX5_move_X5_isPerson : GoodIn wsX5_move (va_wsS RX5 99 yX5_isPerson wsX5_isPerson) := goodIn_app (goodIn_of _ (by decide +kernel)) ggX5_move_X5_isPerson
set_option maxRecDepth 20000 in
theorem ggX5_move_X5_isGate : GoodIn wsX5_move wsX5_isGate := goodIn_r _ [9] (by decide +kernel) (by decide +kernel)
set_option maxRecDepth 20000 in
theorem gX5_move_X5_isGate : GoodIn wsX5_move (va_wsS RX5 84 yX5_isGate wsX5_isGate) := goodIn_app (goodIn_of _ (by decide +kernel)) ggX5_move_X5_isGate
set_option maxRecDepth 20000 in
theorem ggX5_move_X1_keep : GoodIn wsX5_move wsX1_keep := goodIn_r _ [14, 15, 16, 17, 18, 19, 20, 21, 22, 23, 24, 13, 25, 44, 45, 46, 47] (by decide +kernel) (by decide +kernel)
set_option maxRecDepth 20000 in
theorem gX5_move_X1_keep : GoodIn wsX5_move (wsV RX5 61 RX1 yX1_keep wsX1_keep) := goodIn_app (goodIn_of _ (by decide +kernel)) ggX5_move_X1_keep
set_option maxRecDepth 20000 in
theorem ggX5_move_X0_gateOf : GoodIn wsX5_move wsX0_gateOf := goodIn_r _ [30, 31, 47] (by decide +kernel) (by decide +kernel)
set_option maxRecDepth 20000 in
theorem gX5_move_X0_gateOf : GoodIn wsX5_move (wsV RX5 102 RX0 yX0_gateOf wsX0_gateOf) := goodIn_app (goodIn_of _ (by decide +kernel)) ggX5_move_X0_gateOf
set_option maxRecDepth 20000 in
theorem ggX5_move_X0_setGate : GoodIn wsX5_move wsX0_setGate := goodIn_r _ [35, 31, 47] (by decide +kernel) (by decide +kernel)
set_option maxRecDepth 20000 in
theorem gX5_move_X0_setGate : GoodIn wsX5_move (wsV RX5 106 RX0 yX0_setGate wsX0_setGate) := goodIn_app (goodIn_of _ (by decide +kernel)) ggX5_move_X0_setGate
theorem dX5_move_0 : decode cX5_move 0 = .ok (.iload_n 2, 1) := by decide +kernel
theorem dX5_move_1 : decode cX5_move 1 = .ok (.invokestatic 99, 3) := by decide +kernel
theorem dX5_move_4 : decode cX5_move 4 = .ok (.ifCond .eq 10, 3) := by decide +kernel
theorem dX5_move_7 : decode cX5_move 7 = .ok (.iload_n 3, 1) := by decide +kernel
theorem dX5_move_8 : decode cX5_move 8 = .ok (.invokestatic 84, 3) := by decide +kernel
theorem dX5_move_11 : decode cX5_move 11 = .ok (.ifCond .ne 5, 3) := by decide +kernel
theorem dX5_move_14 : decode cX5_move 14 = .ok (.iconst (-1), 1) := by decide +kernel
theorem dX5_move_15 : decode cX5_move 15 = .ok (.ireturn, 1) := by decide +kernel
theorem dX5_move_16 : decode cX5_move 16 = .ok (.aload_n 0, 1) := by decide +kernel
theorem dX5_move_17 : decode cX5_move 17 = .ok (.getfield 25, 3) := by decide +kernel
theorem dX5_move_20 : decode cX5_move 20 = .ok (.aload_n 0, 1) := by decide +kernel
theorem dX5_move_21 : decode cX5_move 21 = .ok (.getfield 12, 3) := by decide +kernel
theorem dX5_move_24 : decode cX5_move 24 = .ok (.invokevirtual 61, 3) := by decide +kernel
theorem dX5_move_27 : decode cX5_move 27 = .ok (.aload_n 0, 1) := by decide +kernel
theorem dX5_move_28 : decode cX5_move 28 = .ok (.getfield 12, 3) := by decide +kernel
theorem dX5_move_31 : decode cX5_move 31 = .ok (.iload_n 1, 1) := by decide +kernel
theorem dX5_move_32 : decode cX5_move 32 = .ok (.iload_n 2, 1) := by decide +kernel
theorem dX5_move_33 : decode cX5_move 33 = .ok (.invokevirtual 102, 3) := by decide +kernel
theorem dX5_move_36 : decode cX5_move 36 = .ok (.istore 4, 2) := by decide +kernel
theorem dX5_move_38 : decode cX5_move 38 = .ok (.aload_n 0, 1) := by decide +kernel
theorem dX5_move_39 : decode cX5_move 39 = .ok (.getfield 12, 3) := by decide +kernel
theorem dX5_move_42 : decode cX5_move 42 = .ok (.iload_n 1, 1) := by decide +kernel
theorem dX5_move_43 : decode cX5_move 43 = .ok (.iload_n 2, 1) := by decide +kernel
theorem dX5_move_44 : decode cX5_move 44 = .ok (.iload_n 3, 1) := by decide +kernel
theorem dX5_move_45 : decode cX5_move 45 = .ok (.invokevirtual 106, 3) := by decide +kernel
theorem dX5_move_48 : decode cX5_move 48 = .ok (.iload 4, 2) := by decide +kernel
theorem dX5_move_50 : decode cX5_move 50 = .ok (.ireturn, 1) := by decide +kernel
set_option maxRecDepth 20000 in
theorem ggX5_round_X1_keep : GoodIn wsX5_round wsX1_keep := goodIn_r _ [7, 8, 9, 10, 11, 12, 13, 14, 15, 16, 17, 6, 18, 120, 121, 122, 123] (by decide +kernel) (by decide +kernel)
set_option maxRecDepth 20000 in
theorem gX5_round_X1_keep : GoodIn wsX5_round (wsV RX5 61 RX1 yX1_keep wsX1_keep) := goodIn_app (goodIn_of _ (by decide +kernel)) ggX5_round_X1_keep
set_option maxRecDepth 20000 in
theorem ggX5_round_X5_makeRound : GoodIn wsX5_round wsX5_makeRound := goodIn_r _ [23, 24, 25, 26, 27, 28, 29, 30, 31, 32, 33, 34, 35, 36, 37, 38, 39, 40, 41, 42, 43, 44, 45, 46, 47, 48, 49, 50, 51, 22, 52, 53, 54, 55, 56, 57, 58, 59, 60, 61, 62, 63, 64, 65, 66, 67, 68, 69, 70, 71, 72, 73, 74, 75, 76, 77, 78, 79, 80, 81, 82, 83, 84, 85, 86, 87, 88, 89, 90, 91, 92, 93, 94, 95, 96, 97, 98, 99, 100, 101, 102, 103, 104, 105, 106, 107, 108, 109, 110, 111, 112, 113, 114, 115, 116, 117, 118, 119, 124, 125, 126, 127, 128, 123] (by decide +kernel) (by decide +kernel)
set_option maxRecDepth 20000 in
theorem gX5_round_X5_makeRound : GoodIn wsX5_round (wsV RX5 110 RX5 yX5_makeRound wsX5_makeRound) := goodIn_app (goodIn_of _ (by decide +kernel)) ggX5_round_X5_makeRound
theorem dX5_round_0 : decode cX5_round 0 = .ok (.aload_n 0, 1) := by decide +kernel
theorem dX5_round_1 : decode cX5_round 1 = .ok (.getfield 25, 3) := by decide +kernel
theorem dX5_round_4 : decode cX5_round 4 = .ok (.aload_n 0, 1) := by decide +kernel
theorem dX5_round_5 : decode cX5_round 5 = .ok (.getfield 12, 3) := by decide +kernel
theorem dX5_round_8 : decode cX5_round 8 = .ok (.invokevirtual 61, 3) := by decide +kernel
theorem dX5_round_11 : decode cX5_round 11 = .ok (.aload_n 0, 1) := by decide +kernel
theorem dX5_round_12 : decode cX5_round 12 = .ok (.aload_n 0, 1) := by decide +kernel
theorem dX5_round_13 : decode cX5_round 13 = .ok (.getfield 12, 3) := by decide +kernel
theorem dX5_round_16 : decode cX5_round 16 = .ok (.invokevirtual 110, 3) := by decide +kernel
theorem dX5_round_19 : decode cX5_round 19 = .ok (.ireturn, 1) := by decide +kernel
set_option maxRecDepth 20000 in
theorem ggX5_append_X4_hasRoom : GoodIn wsX5_append wsX4_hasRoom := goodIn_r _ [6, 7, 26, 27, 28, 29, 30, 31] (by decide +kernel) (by decide +kernel)
set_option maxRecDepth 20000 in
theorem gX5_append_X4_hasRoom : GoodIn wsX5_append (wsV RX5 114 RX4 yX4_hasRoom wsX4_hasRoom) := goodIn_app (goodIn_of _ (by decide +kernel)) ggX5_append_X4_hasRoom
set_option maxRecDepth 20000 in
theorem ggX5_append_X4_add : GoodIn wsX5_append wsX4_add := goodIn_r _ [11, 12, 7, 13, 3, 4, 5, 6, 26, 27, 28, 29, 30, 31] (by decide +kernel) (by decide +kernel)
set_option maxRecDepth 20000 in
theorem gX5_append_X4_add : GoodIn wsX5_append (wsV RX5 118 RX4 yX4_add wsX4_add) := goodIn_app (goodIn_of _ (by decide +kernel)) ggX5_append_X4_add
set_option maxRecDepth 20000 in
theorem ggX5_append_X4_length : GoodIn wsX5_append wsX4_length := goodIn_r _ [17, 7, 26, 27, 28, 29, 30, 31] (by decide +kernel) (by decide +kernel)
set_option maxRecDepth 20000 in
theorem gX5_append_X4_length : GoodIn wsX5_append (wsV RX5 122 RX4 yX4_length wsX4_length) := goodIn_app (goodIn_of _ (by decide +kernel)) ggX5_append_X4_length
theorem dX5_append_0 : decode cX5_append 0 = .ok (.iload_n 1, 1) := by decide +kernel
theorem dX5_append_1 : decode cX5_append 1 = .ok (.bipush 32, 2) := by decide +kernel
theorem dX5_append_3 : decode cX5_append 3 = .ok (.if_icmp .lt 9, 3) := by decide +kernel
theorem dX5_append_6 : decode cX5_append 6 = .ok (.iload_n 1, 1) := by decide +kernel
theorem dX5_append_7 : decode cX5_append 7 = .ok (.bipush 126, 2) := by decide +kernel
theorem dX5_append_9 : decode cX5_append 9 = .ok (.if_icmp .le 6, 3) := by decide +kernel
theorem dX5_append_12 : decode cX5_append 12 = .ok (.bipush (-2), 2) := by decide +kernel
theorem dX5_append_14 : decode cX5_append 14 = .ok (.ireturn, 1) := by decide +kernel
theorem dX5_append_15 : decode cX5_append 15 = .ok (.aload_n 0, 1) := by decide +kernel
theorem dX5_append_16 : decode cX5_append 16 = .ok (.getfield 32, 3) := by decide +kernel
theorem dX5_append_19 : decode cX5_append 19 = .ok (.invokevirtual 114, 3) := by decide +kernel
theorem dX5_append_22 : decode cX5_append 22 = .ok (.ifCond .ne 6, 3) := by decide +kernel
theorem dX5_append_25 : decode cX5_append 25 = .ok (.bipush (-3), 2) := by decide +kernel
theorem dX5_append_27 : decode cX5_append 27 = .ok (.ireturn, 1) := by decide +kernel
theorem dX5_append_28 : decode cX5_append 28 = .ok (.aload_n 0, 1) := by decide +kernel
theorem dX5_append_29 : decode cX5_append 29 = .ok (.getfield 32, 3) := by decide +kernel
theorem dX5_append_32 : decode cX5_append 32 = .ok (.iload_n 1, 1) := by decide +kernel
theorem dX5_append_33 : decode cX5_append 33 = .ok (.invokevirtual 118, 3) := by decide +kernel
theorem dX5_append_36 : decode cX5_append 36 = .ok (.aload_n 0, 1) := by decide +kernel
theorem dX5_append_37 : decode cX5_append 37 = .ok (.getfield 32, 3) := by decide +kernel
theorem dX5_append_40 : decode cX5_append 40 = .ok (.invokevirtual 122, 3) := by decide +kernel
theorem dX5_append_43 : decode cX5_append 43 = .ok (.ireturn, 1) := by decide +kernel
set_option maxRecDepth 20000 in
theorem ggX5_clearText_X4_length : GoodIn wsX5_clearText wsX4_length := goodIn_r _ [6, 7, 20, 21, 22, 23, 24, 25] (by decide +kernel) (by decide +kernel)
set_option maxRecDepth 20000 in
theorem gX5_clearText_X4_length : GoodIn wsX5_clearText (wsV RX5 122 RX4 yX4_length wsX4_length) := goodIn_app (goodIn_of _ (by decide +kernel)) ggX5_clearText_X4_length
set_option maxRecDepth 20000 in
theorem ggX5_clearText_X4_empty : GoodIn wsX5_clearText wsX4_empty := goodIn_r _ [11, 7, 20, 21, 22, 23, 24, 25] (by decide +kernel) (by decide +kernel)
set_option maxRecDepth 20000 in
theorem gX5_clearText_X4_empty : GoodIn wsX5_clearText (wsV RX5 125 RX4 yX4_empty wsX4_empty) := goodIn_app (goodIn_of _ (by decide +kernel)) ggX5_clearText_X4_empty
theorem dX5_clearText_0 : decode cX5_clearText 0 = .ok (.aload_n 0, 1) := by decide +kernel
theorem dX5_clearText_1 : decode cX5_clearText 1 = .ok (.getfield 32, 3) := by decide +kernel
theorem dX5_clearText_4 : decode cX5_clearText 4 = .ok (.invokevirtual 122, 3) := by decide +kernel
theorem dX5_clearText_7 : decode cX5_clearText 7 = .ok (.istore_n 1, 1) := by decide +kernel
theorem dX5_clearText_8 : decode cX5_clearText 8 = .ok (.aload_n 0, 1) := by decide +kernel
theorem dX5_clearText_9 : decode cX5_clearText 9 = .ok (.getfield 32, 3) := by decide +kernel
theorem dX5_clearText_12 : decode cX5_clearText 12 = .ok (.invokevirtual 125, 3) := by decide +kernel
theorem dX5_clearText_15 : decode cX5_clearText 15 = .ok (.iload_n 1, 1) := by decide +kernel
theorem dX5_clearText_16 : decode cX5_clearText 16 = .ok (.ireturn, 1) := by decide +kernel
set_option maxRecDepth 20000 in
theorem ggX5_fault_X4_parse : GoodIn wsX5_fault wsX4_parse := goodIn_r _ [6, 7, 8, 9, 10, 11, 12, 13, 14, 15, 16, 17, 5, 18, 19, 20, 21, 22, 23, 24, 25, 26, 27, 28, 29, 30, 31, 32, 33, 34, 35, 44, 45, 46, 47, 48, 49] (by decide +kernel) (by decide +kernel)
set_option maxRecDepth 20000 in
theorem gX5_fault_X4_parse : GoodIn wsX5_fault (wsV RX5 128 RX4 yX4_parse wsX4_parse) := goodIn_app (goodIn_of _ (by decide +kernel)) ggX5_fault_X4_parse
theorem dX5_fault_0 : decode cX5_fault 0 = .ok (.aload_n 0, 1) := by decide +kernel
theorem dX5_fault_1 : decode cX5_fault 1 = .ok (.getfield 32, 3) := by decide +kernel
theorem dX5_fault_4 : decode cX5_fault 4 = .ok (.invokevirtual 128, 3) := by decide +kernel
theorem dX5_fault_7 : decode cX5_fault 7 = .ok (.ireturn, 1) := by decide +kernel
set_option maxRecDepth 20000 in
theorem ggX5_read_X4_parse : GoodIn wsX5_read wsX4_parse := goodIn_r _ [8, 9, 10, 11, 12, 13, 14, 15, 16, 17, 18, 19, 7, 20, 21, 22, 23, 24, 25, 26, 27, 28, 29, 30, 31, 32, 33, 34, 35, 36, 37, 83, 84, 85, 86, 87, 88] (by decide +kernel) (by decide +kernel)
set_option maxRecDepth 20000 in
theorem gX5_read_X4_parse : GoodIn wsX5_read (wsV RX5 128 RX4 yX4_parse wsX4_parse) := goodIn_app (goodIn_of _ (by decide +kernel)) ggX5_read_X4_parse
set_option maxRecDepth 20000 in
theorem ggX5_read_X1_keep : GoodIn wsX5_read wsX1_keep := goodIn_r _ [42, 43, 44, 45, 46, 47, 48, 49, 50, 51, 52, 41, 53, 89, 90, 91, 92] (by decide +kernel) (by decide +kernel)
set_option maxRecDepth 20000 in
theorem gX5_read_X1_keep : GoodIn wsX5_read (wsV RX5 61 RX1 yX1_keep wsX1_keep) := goodIn_app (goodIn_of _ (by decide +kernel)) ggX5_read_X1_keep
set_option maxRecDepth 20000 in
theorem ggX5_read_X0_numberOfWishes : GoodIn wsX5_read wsX0_numberOfWishes := goodIn_r _ [58, 59, 60, 61, 62, 63, 64, 65, 66, 92] (by decide +kernel) (by decide +kernel)
set_option maxRecDepth 20000 in
theorem gX5_read_X0_numberOfWishes : GoodIn wsX5_read (wsV RX5 69 RX0 yX0_numberOfWishes wsX0_numberOfWishes) := goodIn_app (goodIn_of _ (by decide +kernel)) ggX5_read_X0_numberOfWishes
set_option maxRecDepth 20000 in
theorem ggX5_read_X4_rightsFor : GoodIn wsX5_read wsX4_rightsFor := goodIn_r _ [70, 9, 83, 84, 85, 86, 87, 88] (by decide +kernel) (by decide +kernel)
set_option maxRecDepth 20000 in
theorem gX5_read_X4_rightsFor : GoodIn wsX5_read (wsV RX5 131 RX4 yX4_rightsFor wsX4_rightsFor) := goodIn_app (goodIn_of _ (by decide +kernel)) ggX5_read_X4_rightsFor
set_option maxRecDepth 20000 in
theorem ggX5_read_X0_openWishes : GoodIn wsX5_read wsX0_openWishes := goodIn_r _ [74, 59, 92] (by decide +kernel) (by decide +kernel)
set_option maxRecDepth 20000 in
theorem gX5_read_X0_openWishes : GoodIn wsX5_read (wsV RX5 135 RX0 yX0_openWishes wsX0_openWishes) := goodIn_app (goodIn_of _ (by decide +kernel)) ggX5_read_X0_openWishes
theorem dX5_read_0 : decode cX5_read 0 = .ok (.aload_n 0, 1) := by decide +kernel
theorem dX5_read_1 : decode cX5_read 1 = .ok (.getfield 32, 3) := by decide +kernel
theorem dX5_read_4 : decode cX5_read 4 = .ok (.invokevirtual 128, 3) := by decide +kernel
theorem dX5_read_7 : decode cX5_read 7 = .ok (.istore_n 1, 1) := by decide +kernel
theorem dX5_read_8 : decode cX5_read 8 = .ok (.iload_n 1, 1) := by decide +kernel
theorem dX5_read_9 : decode cX5_read 9 = .ok (.bipush (-5), 2) := by decide +kernel
theorem dX5_read_11 : decode cX5_read 11 = .ok (.if_icmp .eq 8, 3) := by decide +kernel
theorem dX5_read_14 : decode cX5_read 14 = .ok (.bipush (-100), 2) := by decide +kernel
theorem dX5_read_16 : decode cX5_read 16 = .ok (.iload_n 1, 1) := by decide +kernel
theorem dX5_read_17 : decode cX5_read 17 = .ok (.isub, 1) := by decide +kernel
theorem dX5_read_18 : decode cX5_read 18 = .ok (.ireturn, 1) := by decide +kernel
theorem dX5_read_19 : decode cX5_read 19 = .ok (.aload_n 0, 1) := by decide +kernel
theorem dX5_read_20 : decode cX5_read 20 = .ok (.getfield 25, 3) := by decide +kernel
theorem dX5_read_23 : decode cX5_read 23 = .ok (.aload_n 0, 1) := by decide +kernel
theorem dX5_read_24 : decode cX5_read 24 = .ok (.getfield 12, 3) := by decide +kernel
theorem dX5_read_27 : decode cX5_read 27 = .ok (.invokevirtual 61, 3) := by decide +kernel
theorem dX5_read_30 : decode cX5_read 30 = .ok (.aload_n 0, 1) := by decide +kernel
theorem dX5_read_31 : decode cX5_read 31 = .ok (.getfield 12, 3) := by decide +kernel
theorem dX5_read_34 : decode cX5_read 34 = .ok (.invokevirtual 69, 3) := by decide +kernel
theorem dX5_read_37 : decode cX5_read 37 = .ok (.istore_n 2, 1) := by decide +kernel
theorem dX5_read_38 : decode cX5_read 38 = .ok (.iconst 0, 1) := by decide +kernel
theorem dX5_read_39 : decode cX5_read 39 = .ok (.istore_n 3, 1) := by decide +kernel
theorem dX5_read_40 : decode cX5_read 40 = .ok (.iload_n 3, 1) := by decide +kernel
theorem dX5_read_41 : decode cX5_read 41 = .ok (.bipush 8, 2) := by decide +kernel
theorem dX5_read_43 : decode cX5_read 43 = .ok (.if_icmp .ge 25, 3) := by decide +kernel
theorem dX5_read_46 : decode cX5_read 46 = .ok (.aload_n 0, 1) := by decide +kernel
theorem dX5_read_47 : decode cX5_read 47 = .ok (.getfield 12, 3) := by decide +kernel
theorem dX5_read_50 : decode cX5_read 50 = .ok (.iload_n 3, 1) := by decide +kernel
theorem dX5_read_51 : decode cX5_read 51 = .ok (.aload_n 0, 1) := by decide +kernel
theorem dX5_read_52 : decode cX5_read 52 = .ok (.getfield 32, 3) := by decide +kernel
theorem dX5_read_55 : decode cX5_read 55 = .ok (.iload_n 3, 1) := by decide +kernel
theorem dX5_read_56 : decode cX5_read 56 = .ok (.invokevirtual 131, 3) := by decide +kernel
theorem dX5_read_59 : decode cX5_read 59 = .ok (.invokevirtual 135, 3) := by decide +kernel
theorem dX5_read_62 : decode cX5_read 62 = .ok (.iinc 3 1, 3) := by decide +kernel
theorem dX5_read_65 : decode cX5_read 65 = .ok (.goto (-25), 3) := by decide +kernel
theorem dX5_read_68 : decode cX5_read 68 = .ok (.aload_n 0, 1) := by decide +kernel
theorem dX5_read_69 : decode cX5_read 69 = .ok (.getfield 12, 3) := by decide +kernel
theorem dX5_read_72 : decode cX5_read 72 = .ok (.invokevirtual 69, 3) := by decide +kernel
theorem dX5_read_75 : decode cX5_read 75 = .ok (.iload_n 2, 1) := by decide +kernel
theorem dX5_read_76 : decode cX5_read 76 = .ok (.isub, 1) := by decide +kernel
theorem dX5_read_77 : decode cX5_read 77 = .ok (.ireturn, 1) := by decide +kernel
set_option maxRecDepth 20000 in
theorem ggX5_undo_X1_size : GoodIn wsX5_undo wsX1_size := goodIn_r _ [7, 8, 31, 32, 33] (by decide +kernel) (by decide +kernel)
set_option maxRecDepth 20000 in
theorem gX5_undo_X1_size : GoodIn wsX5_undo (wsV RX5 138 RX1 yX1_size wsX1_size) := goodIn_app (goodIn_of _ (by decide +kernel)) ggX5_undo_X1_size
set_option maxRecDepth 20000 in
theorem ggX5_undo_X1_takeLatest : GoodIn wsX5_undo wsX1_takeLatest := goodIn_r _ [12, 8, 13, 14, 15, 16, 17, 18, 19, 20, 6, 21, 22, 31, 32, 33, 34] (by decide +kernel) (by decide +kernel)
set_option maxRecDepth 20000 in
theorem gX5_undo_X1_takeLatest : GoodIn wsX5_undo (wsV RX5 141 RX1 yX1_takeLatest wsX1_takeLatest) := goodIn_app (goodIn_of _ (by decide +kernel)) ggX5_undo_X1_takeLatest
theorem dX5_undo_0 : decode cX5_undo 0 = .ok (.aload_n 0, 1) := by decide +kernel
theorem dX5_undo_1 : decode cX5_undo 1 = .ok (.getfield 25, 3) := by decide +kernel
theorem dX5_undo_4 : decode cX5_undo 4 = .ok (.invokevirtual 138, 3) := by decide +kernel
theorem dX5_undo_7 : decode cX5_undo 7 = .ok (.ifCond .ne 6, 3) := by decide +kernel
theorem dX5_undo_10 : decode cX5_undo 10 = .ok (.bipush (-5), 2) := by decide +kernel
theorem dX5_undo_12 : decode cX5_undo 12 = .ok (.ireturn, 1) := by decide +kernel
theorem dX5_undo_13 : decode cX5_undo 13 = .ok (.aload_n 0, 1) := by decide +kernel
theorem dX5_undo_14 : decode cX5_undo 14 = .ok (.getfield 25, 3) := by decide +kernel
theorem dX5_undo_17 : decode cX5_undo 17 = .ok (.aload_n 0, 1) := by decide +kernel
theorem dX5_undo_18 : decode cX5_undo 18 = .ok (.getfield 12, 3) := by decide +kernel
theorem dX5_undo_21 : decode cX5_undo 21 = .ok (.invokevirtual 141, 3) := by decide +kernel
theorem dX5_undo_24 : decode cX5_undo 24 = .ok (.aload_n 0, 1) := by decide +kernel
theorem dX5_undo_25 : decode cX5_undo 25 = .ok (.getfield 25, 3) := by decide +kernel
theorem dX5_undo_28 : decode cX5_undo 28 = .ok (.invokevirtual 138, 3) := by decide +kernel
theorem dX5_undo_31 : decode cX5_undo 31 = .ok (.ireturn, 1) := by decide +kernel
set_option maxRecDepth 20000 in
theorem ggX5_save_X0_copyFrom : GoodIn wsX5_save wsX0_copyFrom := goodIn_r _ [8, 9, 10, 11, 12, 13, 33] (by decide +kernel) (by decide +kernel)
set_option maxRecDepth 20000 in
theorem gX5_save_X0_copyFrom : GoodIn wsX5_save (wsV RX5 144 RX0 yX0_copyFrom wsX0_copyFrom) := goodIn_app (goodIn_of _ (by decide +kernel)) ggX5_save_X0_copyFrom
set_option maxRecDepth 20000 in
theorem ggX5_save_X0_numberOfWishes : GoodIn wsX5_save wsX0_numberOfWishes := goodIn_r _ [17, 9, 18, 19, 20, 21, 22, 23, 24, 33] (by decide +kernel) (by decide +kernel)
set_option maxRecDepth 20000 in
theorem gX5_save_X0_numberOfWishes : GoodIn wsX5_save (wsV RX5 69 RX0 yX0_numberOfWishes wsX0_numberOfWishes) := goodIn_app (goodIn_of _ (by decide +kernel)) ggX5_save_X0_numberOfWishes
theorem dX5_save_0 : decode cX5_save 0 = .ok (.aload_n 0, 1) := by decide +kernel
theorem dX5_save_1 : decode cX5_save 1 = .ok (.getfield 19, 3) := by decide +kernel
theorem dX5_save_4 : decode cX5_save 4 = .ok (.aload_n 0, 1) := by decide +kernel
theorem dX5_save_5 : decode cX5_save 5 = .ok (.getfield 12, 3) := by decide +kernel
theorem dX5_save_8 : decode cX5_save 8 = .ok (.invokevirtual 144, 3) := by decide +kernel
theorem dX5_save_11 : decode cX5_save 11 = .ok (.aload_n 0, 1) := by decide +kernel
theorem dX5_save_12 : decode cX5_save 12 = .ok (.iconst 1, 1) := by decide +kernel
theorem dX5_save_13 : decode cX5_save 13 = .ok (.putfield 50, 3) := by decide +kernel
theorem dX5_save_16 : decode cX5_save 16 = .ok (.aload_n 0, 1) := by decide +kernel
theorem dX5_save_17 : decode cX5_save 17 = .ok (.getfield 12, 3) := by decide +kernel
theorem dX5_save_20 : decode cX5_save 20 = .ok (.invokevirtual 69, 3) := by decide +kernel
theorem dX5_save_23 : decode cX5_save 23 = .ok (.ireturn, 1) := by decide +kernel
set_option maxRecDepth 20000 in
theorem ggX5_restore_X1_keep : GoodIn wsX5_restore wsX1_keep := goodIn_r _ [9, 10, 11, 12, 13, 14, 15, 16, 17, 18, 19, 8, 20, 47, 48, 49, 50] (by decide +kernel) (by decide +kernel)
set_option maxRecDepth 20000 in
theorem gX5_restore_X1_keep : GoodIn wsX5_restore (wsV RX5 61 RX1 yX1_keep wsX1_keep) := goodIn_app (goodIn_of _ (by decide +kernel)) ggX5_restore_X1_keep
set_option maxRecDepth 20000 in
theorem ggX5_restore_X0_copyFrom : GoodIn wsX5_restore wsX0_copyFrom := goodIn_r _ [25, 26, 27, 14, 15, 16, 50] (by decide +kernel) (by decide +kernel)
set_option maxRecDepth 20000 in
theorem gX5_restore_X0_copyFrom : GoodIn wsX5_restore (wsV RX5 144 RX0 yX0_copyFrom wsX0_copyFrom) := goodIn_app (goodIn_of _ (by decide +kernel)) ggX5_restore_X0_copyFrom
set_option maxRecDepth 20000 in
theorem ggX5_restore_X0_numberOfWishes : GoodIn wsX5_restore wsX0_numberOfWishes := goodIn_r _ [31, 26, 32, 33, 34, 35, 36, 37, 38, 50] (by decide +kernel) (by decide +kernel)
set_option maxRecDepth 20000 in
theorem gX5_restore_X0_numberOfWishes : GoodIn wsX5_restore (wsV RX5 69 RX0 yX0_numberOfWishes wsX0_numberOfWishes) := goodIn_app (goodIn_of _ (by decide +kernel)) ggX5_restore_X0_numberOfWishes
theorem dX5_restore_0 : decode cX5_restore 0 = .ok (.aload_n 0, 1) := by decide +kernel
theorem dX5_restore_1 : decode cX5_restore 1 = .ok (.getfield 50, 3) := by decide +kernel
theorem dX5_restore_4 : decode cX5_restore 4 = .ok (.ifCond .ne 6, 3) := by decide +kernel
theorem dX5_restore_7 : decode cX5_restore 7 = .ok (.bipush (-4), 2) := by decide +kernel
theorem dX5_restore_9 : decode cX5_restore 9 = .ok (.ireturn, 1) := by decide +kernel
theorem dX5_restore_10 : decode cX5_restore 10 = .ok (.aload_n 0, 1) := by decide +kernel
theorem dX5_restore_11 : decode cX5_restore 11 = .ok (.getfield 25, 3) := by decide +kernel
theorem dX5_restore_14 : decode cX5_restore 14 = .ok (.aload_n 0, 1) := by decide +kernel
theorem dX5_restore_15 : decode cX5_restore 15 = .ok (.getfield 12, 3) := by decide +kernel
theorem dX5_restore_18 : decode cX5_restore 18 = .ok (.invokevirtual 61, 3) := by decide +kernel
theorem dX5_restore_21 : decode cX5_restore 21 = .ok (.aload_n 0, 1) := by decide +kernel
theorem dX5_restore_22 : decode cX5_restore 22 = .ok (.getfield 12, 3) := by decide +kernel
theorem dX5_restore_25 : decode cX5_restore 25 = .ok (.aload_n 0, 1) := by decide +kernel
theorem dX5_restore_26 : decode cX5_restore 26 = .ok (.getfield 19, 3) := by decide +kernel
theorem dX5_restore_29 : decode cX5_restore 29 = .ok (.invokevirtual 144, 3) := by decide +kernel
theorem dX5_restore_32 : decode cX5_restore 32 = .ok (.aload_n 0, 1) := by decide +kernel
theorem dX5_restore_33 : decode cX5_restore 33 = .ok (.getfield 12, 3) := by decide +kernel
theorem dX5_restore_36 : decode cX5_restore 36 = .ok (.invokevirtual 69, 3) := by decide +kernel
theorem dX5_restore_39 : decode cX5_restore 39 = .ok (.ireturn, 1) := by decide +kernel
set_option maxRecDepth 20000 in
theorem ggX5_person_X5_isPerson : GoodIn wsX5_person wsX5_isPerson := goodIn_r _ [5] (by decide +kernel) (by decide +kernel)
set_option maxRecDepth 20000 in
theorem gX5_person_X5_isPerson : GoodIn wsX5_person (va_wsS RX5 99 yX5_isPerson wsX5_isPerson) := goodIn_app (goodIn_of _ (by decide +kernel)) ggX5_person_X5_isPerson
set_option maxRecDepth 20000 in
theorem ggX5_person_X0_gateOf : GoodIn wsX5_person wsX0_gateOf := goodIn_r _ [10, 11, 60] (by decide +kernel) (by decide +kernel)
set_option maxRecDepth 20000 in
theorem gX5_person_X0_gateOf : GoodIn wsX5_person (wsV RX5 102 RX0 yX0_gateOf wsX0_gateOf) := goodIn_app (goodIn_of _ (by decide +kernel)) ggX5_person_X0_gateOf
set_option maxRecDepth 20000 in
theorem ggX5_person_X0_amountOfPerson : GoodIn wsX5_person wsX0_amountOfPerson := goodIn_r _ [15, 16, 17, 18, 9, 19, 20, 21, 22, 23, 11, 24, 4, 25, 26, 27, 28, 29, 30, 31, 32, 33, 34, 35, 36, 37, 38, 39, 40, 41, 42, 43, 44, 45, 46, 47, 60] (by decide +kernel) (by decide +kernel)
set_option maxRecDepth 20000 in
theorem gX5_person_X0_amountOfPerson : GoodIn wsX5_person (wsV RX5 147 RX0 yX0_amountOfPerson wsX0_amountOfPerson) := goodIn_app (goodIn_of _ (by decide +kernel)) ggX5_person_X0_amountOfPerson
set_option maxRecDepth 20000 in
theorem ggX5_person_X0_peopleToMeet : GoodIn wsX5_person wsX0_peopleToMeet := goodIn_r _ [51, 32, 33, 34, 9, 35, 36, 37, 38, 39, 11, 40, 41, 42, 43, 60] (by decide +kernel) (by decide +kernel)
set_option maxRecDepth 20000 in
theorem gX5_person_X0_peopleToMeet : GoodIn wsX5_person (wsV RX5 151 RX0 yX0_peopleToMeet wsX0_peopleToMeet) := goodIn_app (goodIn_of _ (by decide +kernel)) ggX5_person_X0_peopleToMeet
theorem dX5_person_0 : decode cX5_person 0 = .ok (.iload_n 2, 1) := by decide +kernel
theorem dX5_person_1 : decode cX5_person 1 = .ok (.invokestatic 99, 3) := by decide +kernel
theorem dX5_person_4 : decode cX5_person 4 = .ok (.ifCond .ne 5, 3) := by decide +kernel
theorem dX5_person_7 : decode cX5_person 7 = .ok (.iconst (-1), 1) := by decide +kernel
theorem dX5_person_8 : decode cX5_person 8 = .ok (.ireturn, 1) := by decide +kernel
theorem dX5_person_9 : decode cX5_person 9 = .ok (.iload_n 3, 1) := by decide +kernel
theorem dX5_person_10 : decode cX5_person 10 = .ok (.tableswitch 69 0 5 #[38, 48, 48, 48, 48, 59], 38) := by decide +kernel
theorem dX5_person_48 : decode cX5_person 48 = .ok (.aload_n 0, 1) := by decide +kernel
theorem dX5_person_49 : decode cX5_person 49 = .ok (.getfield 12, 3) := by decide +kernel
theorem dX5_person_52 : decode cX5_person 52 = .ok (.iload_n 1, 1) := by decide +kernel
theorem dX5_person_53 : decode cX5_person 53 = .ok (.iload_n 2, 1) := by decide +kernel
theorem dX5_person_54 : decode cX5_person 54 = .ok (.invokevirtual 102, 3) := by decide +kernel
theorem dX5_person_57 : decode cX5_person 57 = .ok (.ireturn, 1) := by decide +kernel
theorem dX5_person_58 : decode cX5_person 58 = .ok (.aload_n 0, 1) := by decide +kernel
theorem dX5_person_59 : decode cX5_person 59 = .ok (.getfield 12, 3) := by decide +kernel
theorem dX5_person_62 : decode cX5_person 62 = .ok (.iload_n 1, 1) := by decide +kernel
theorem dX5_person_63 : decode cX5_person 63 = .ok (.iload_n 2, 1) := by decide +kernel
theorem dX5_person_64 : decode cX5_person 64 = .ok (.iload_n 3, 1) := by decide +kernel
theorem dX5_person_65 : decode cX5_person 65 = .ok (.invokevirtual 147, 3) := by decide +kernel
theorem dX5_person_68 : decode cX5_person 68 = .ok (.ireturn, 1) := by decide +kernel
theorem dX5_person_69 : decode cX5_person 69 = .ok (.aload_n 0, 1) := by decide +kernel
theorem dX5_person_70 : decode cX5_person 70 = .ok (.getfield 12, 3) := by decide +kernel
theorem dX5_person_73 : decode cX5_person 73 = .ok (.iload_n 1, 1) := by decide +kernel
theorem dX5_person_74 : decode cX5_person 74 = .ok (.iload_n 2, 1) := by decide +kernel
theorem dX5_person_75 : decode cX5_person 75 = .ok (.invokevirtual 151, 3) := by decide +kernel
theorem dX5_person_78 : decode cX5_person 78 = .ok (.ireturn, 1) := by decide +kernel
theorem dX5_person_79 : decode cX5_person 79 = .ok (.bipush (-2), 2) := by decide +kernel
theorem dX5_person_81 : decode cX5_person 81 = .ok (.ireturn, 1) := by decide +kernel
set_option maxRecDepth 20000 in
theorem ggX5_pair_X5_arePeople : GoodIn wsX5_pair wsX5_arePeople := goodIn_r _ [5, 6, 7, 4, 8] (by decide +kernel) (by decide +kernel)
set_option maxRecDepth 20000 in
theorem gX5_pair_X5_arePeople : GoodIn wsX5_pair (va_wsS RX5 54 yX5_arePeople wsX5_arePeople) := goodIn_app (goodIn_of _ (by decide +kernel)) ggX5_pair_X5_arePeople
set_option maxRecDepth 20000 in
theorem ggX5_pair_X0_hasWish : GoodIn wsX5_pair wsX0_hasWish := goodIn_r _ [13, 14, 15, 4, 16, 98] (by decide +kernel) (by decide +kernel)
set_option maxRecDepth 20000 in
theorem gX5_pair_X0_hasWish : GoodIn wsX5_pair (wsV RX5 58 RX0 yX0_hasWish wsX0_hasWish) := goodIn_app (goodIn_of _ (by decide +kernel)) ggX5_pair_X0_hasWish
set_option maxRecDepth 20000 in
theorem ggX5_pair_X5_asNumber : GoodIn wsX5_pair wsX5_asNumber := goodIn_r _ [19] (by decide +kernel) (by decide +kernel)
set_option maxRecDepth 20000 in
theorem gX5_pair_X5_asNumber : GoodIn wsX5_pair (va_wsS RX5 91 yX5_asNumber wsX5_asNumber) := goodIn_app (goodIn_of _ (by decide +kernel)) ggX5_pair_X5_asNumber
set_option maxRecDepth 20000 in
theorem ggX5_pair_X0_feudOf : GoodIn wsX5_pair wsX0_feudOf := goodIn_r _ [23, 14, 98] (by decide +kernel) (by decide +kernel)
set_option maxRecDepth 20000 in
theorem gX5_pair_X0_feudOf : GoodIn wsX5_pair (wsV RX5 76 RX0 yX0_feudOf wsX0_feudOf) := goodIn_app (goodIn_of _ (by decide +kernel)) ggX5_pair_X0_feudOf
set_option maxRecDepth 20000 in
theorem ggX5_pair_X0_handshakesOf : GoodIn wsX5_pair wsX0_handshakesOf := goodIn_r _ [27, 14, 98] (by decide +kernel) (by decide +kernel)
set_option maxRecDepth 20000 in
theorem gX5_pair_X0_handshakesOf : GoodIn wsX5_pair (wsV RX5 154 RX0 yX0_handshakesOf wsX0_handshakesOf) := goodIn_app (goodIn_of _ (by decide +kernel)) ggX5_pair_X0_handshakesOf
set_option maxRecDepth 20000 in
theorem ggX5_pair_X5_reasonAgainst : GoodIn wsX5_pair wsX5_reasonAgainst := goodIn_r _ [31, 1, 32, 9, 10, 11, 12, 13, 14, 15, 4, 16, 33, 34, 35, 36, 20, 21, 22, 23, 37, 38, 39, 40, 41, 42, 43, 44, 45, 46, 47, 48, 49, 50, 51, 52, 53, 54, 55, 56, 57, 58, 59, 60, 61, 62, 63, 64, 65, 66, 67, 68, 69, 70, 71, 72, 73, 74, 75, 76, 77, 7, 8, 78, 79, 80, 81, 82, 83, 84, 85, 86, 87, 88, 89, 90, 91, 92, 93, 94, 95, 96, 97, 98, 99, 100, 101, 102, 103] (by decide +kernel) (by decide +kernel)
set_option maxRecDepth 20000 in
theorem gX5_pair_X5_reasonAgainst : GoodIn wsX5_pair (wsV RX5 157 RX5 yX5_reasonAgainst wsX5_reasonAgainst) := goodIn_app (goodIn_of _ (by decide +kernel)) ggX5_pair_X5_reasonAgainst
theorem dX5_pair_0 : decode cX5_pair 0 = .ok (.iload_n 1, 1) := by decide +kernel
theorem dX5_pair_1 : decode cX5_pair 1 = .ok (.iload_n 2, 1) := by decide +kernel
theorem dX5_pair_2 : decode cX5_pair 2 = .ok (.invokestatic 54, 3) := by decide +kernel
theorem dX5_pair_5 : decode cX5_pair 5 = .ok (.ifCond .ne 5, 3) := by decide +kernel
theorem dX5_pair_8 : decode cX5_pair 8 = .ok (.iconst (-1), 1) := by decide +kernel
theorem dX5_pair_9 : decode cX5_pair 9 = .ok (.ireturn, 1) := by decide +kernel
theorem dX5_pair_10 : decode cX5_pair 10 = .ok (.iload_n 3, 1) := by decide +kernel
theorem dX5_pair_11 : decode cX5_pair 11 = .ok (.tableswitch 69 0 3 #[29, 42, 52, 62], 29) := by decide +kernel
theorem dX5_pair_40 : decode cX5_pair 40 = .ok (.aload_n 0, 1) := by decide +kernel
theorem dX5_pair_41 : decode cX5_pair 41 = .ok (.getfield 12, 3) := by decide +kernel
theorem dX5_pair_44 : decode cX5_pair 44 = .ok (.iload_n 1, 1) := by decide +kernel
theorem dX5_pair_45 : decode cX5_pair 45 = .ok (.iload_n 2, 1) := by decide +kernel
theorem dX5_pair_46 : decode cX5_pair 46 = .ok (.invokevirtual 58, 3) := by decide +kernel
theorem dX5_pair_49 : decode cX5_pair 49 = .ok (.invokestatic 91, 3) := by decide +kernel
theorem dX5_pair_52 : decode cX5_pair 52 = .ok (.ireturn, 1) := by decide +kernel
theorem dX5_pair_53 : decode cX5_pair 53 = .ok (.aload_n 0, 1) := by decide +kernel
theorem dX5_pair_54 : decode cX5_pair 54 = .ok (.getfield 12, 3) := by decide +kernel
theorem dX5_pair_57 : decode cX5_pair 57 = .ok (.iload_n 1, 1) := by decide +kernel
theorem dX5_pair_58 : decode cX5_pair 58 = .ok (.iload_n 2, 1) := by decide +kernel
theorem dX5_pair_59 : decode cX5_pair 59 = .ok (.invokevirtual 76, 3) := by decide +kernel
theorem dX5_pair_62 : decode cX5_pair 62 = .ok (.ireturn, 1) := by decide +kernel
theorem dX5_pair_63 : decode cX5_pair 63 = .ok (.aload_n 0, 1) := by decide +kernel
theorem dX5_pair_64 : decode cX5_pair 64 = .ok (.getfield 12, 3) := by decide +kernel
theorem dX5_pair_67 : decode cX5_pair 67 = .ok (.iload_n 1, 1) := by decide +kernel
theorem dX5_pair_68 : decode cX5_pair 68 = .ok (.iload_n 2, 1) := by decide +kernel
theorem dX5_pair_69 : decode cX5_pair 69 = .ok (.invokevirtual 154, 3) := by decide +kernel
theorem dX5_pair_72 : decode cX5_pair 72 = .ok (.ireturn, 1) := by decide +kernel
theorem dX5_pair_73 : decode cX5_pair 73 = .ok (.aload_n 0, 1) := by decide +kernel
theorem dX5_pair_74 : decode cX5_pair 74 = .ok (.iload_n 1, 1) := by decide +kernel
theorem dX5_pair_75 : decode cX5_pair 75 = .ok (.iload_n 2, 1) := by decide +kernel
theorem dX5_pair_76 : decode cX5_pair 76 = .ok (.invokevirtual 157, 3) := by decide +kernel
theorem dX5_pair_79 : decode cX5_pair 79 = .ok (.ireturn, 1) := by decide +kernel
theorem dX5_pair_80 : decode cX5_pair 80 = .ok (.bipush (-2), 2) := by decide +kernel
theorem dX5_pair_82 : decode cX5_pair 82 = .ok (.ireturn, 1) := by decide +kernel
set_option maxRecDepth 20000 in
theorem ggX5_isLinked_X5_isGate : GoodIn wsX5_isLinked wsX5_isGate := goodIn_r _ [5] (by decide +kernel) (by decide +kernel)
set_option maxRecDepth 20000 in
theorem gX5_isLinked_X5_isGate : GoodIn wsX5_isLinked (va_wsS RX5 84 yX5_isGate wsX5_isGate) := goodIn_app (goodIn_of _ (by decide +kernel)) ggX5_isLinked_X5_isGate
set_option maxRecDepth 20000 in
theorem ggX5_isLinked_X0_areLinked : GoodIn wsX5_isLinked wsX0_areLinked := goodIn_r _ [10, 11, 12, 4, 13, 25] (by decide +kernel) (by decide +kernel)
set_option maxRecDepth 20000 in
theorem gX5_isLinked_X0_areLinked : GoodIn wsX5_isLinked (wsV RX5 88 RX0 yX0_areLinked wsX0_areLinked) := goodIn_app (goodIn_of _ (by decide +kernel)) ggX5_isLinked_X0_areLinked
set_option maxRecDepth 20000 in
theorem ggX5_isLinked_X5_asNumber : GoodIn wsX5_isLinked wsX5_asNumber := goodIn_r _ [16] (by decide +kernel) (by decide +kernel)
set_option maxRecDepth 20000 in
theorem gX5_isLinked_X5_asNumber : GoodIn wsX5_isLinked (va_wsS RX5 91 yX5_asNumber wsX5_asNumber) := goodIn_app (goodIn_of _ (by decide +kernel)) ggX5_isLinked_X5_asNumber
theorem dX5_isLinked_0 : decode cX5_isLinked 0 = .ok (.iload_n 1, 1) := by decide +kernel
theorem dX5_isLinked_1 : decode cX5_isLinked 1 = .ok (.invokestatic 84, 3) := by decide +kernel
theorem dX5_isLinked_4 : decode cX5_isLinked 4 = .ok (.ifCond .eq 10, 3) := by decide +kernel
theorem dX5_isLinked_7 : decode cX5_isLinked 7 = .ok (.iload_n 2, 1) := by decide +kernel
theorem dX5_isLinked_8 : decode cX5_isLinked 8 = .ok (.invokestatic 84, 3) := by decide +kernel
theorem dX5_isLinked_11 : decode cX5_isLinked 11 = .ok (.ifCond .ne 5, 3) := by decide +kernel
theorem dX5_isLinked_14 : decode cX5_isLinked 14 = .ok (.iconst (-1), 1) := by decide +kernel
theorem dX5_isLinked_15 : decode cX5_isLinked 15 = .ok (.ireturn, 1) := by decide +kernel
theorem dX5_isLinked_16 : decode cX5_isLinked 16 = .ok (.aload_n 0, 1) := by decide +kernel
theorem dX5_isLinked_17 : decode cX5_isLinked 17 = .ok (.getfield 12, 3) := by decide +kernel
theorem dX5_isLinked_20 : decode cX5_isLinked 20 = .ok (.iload_n 1, 1) := by decide +kernel
theorem dX5_isLinked_21 : decode cX5_isLinked 21 = .ok (.iload_n 2, 1) := by decide +kernel
theorem dX5_isLinked_22 : decode cX5_isLinked 22 = .ok (.invokevirtual 88, 3) := by decide +kernel
theorem dX5_isLinked_25 : decode cX5_isLinked 25 = .ok (.invokestatic 91, 3) := by decide +kernel
theorem dX5_isLinked_28 : decode cX5_isLinked 28 = .ok (.ireturn, 1) := by decide +kernel
set_option maxRecDepth 20000 in
theorem ggX5_partner_X5_isPerson : GoodIn wsX5_partner wsX5_isPerson := goodIn_r _ [6] (by decide +kernel) (by decide +kernel)
set_option maxRecDepth 20000 in
theorem gX5_partner_X5_isPerson : GoodIn wsX5_partner (va_wsS RX5 99 yX5_isPerson wsX5_isPerson) := goodIn_app (goodIn_of _ (by decide +kernel)) ggX5_partner_X5_isPerson
set_option maxRecDepth 20000 in
theorem ggX5_partner_X2_takeFirst : GoodIn wsX5_partner wsX2_takeFirst := goodIn_r _ [11, 12, 13, 14, 15, 16, 10, 17, 18, 19, 20, 21, 22, 23, 24, 25, 26, 27, 28, 29, 30, 31, 32, 33, 5, 34, 35, 36, 37, 38, 39, 40, 41, 42, 43, 44, 45, 46, 47, 48, 49, 50, 51, 52, 53, 54, 55, 56, 57, 58, 59, 60, 4, 6, 61, 62, 63, 64, 65, 66, 67, 68, 81, 82, 83, 84, 85, 86] (by decide +kernel) (by decide +kernel)
set_option maxRecDepth 20000 in
theorem gX5_partner_X2_takeFirst : GoodIn wsX5_partner (wsV RX5 160 RX2 yX2_takeFirst wsX2_takeFirst) := goodIn_app (goodIn_of _ (by decide +kernel)) ggX5_partner_X2_takeFirst
set_option maxRecDepth 20000 in
theorem ggX5_partner_X2_partnerOf : GoodIn wsX5_partner wsX2_partnerOf := goodIn_r _ [72, 12, 18, 81, 82, 83, 84, 85] (by decide +kernel) (by decide +kernel)
set_option maxRecDepth 20000 in
theorem gX5_partner_X2_partnerOf : GoodIn wsX5_partner (wsV RX5 163 RX2 yX2_partnerOf wsX2_partnerOf) := goodIn_app (goodIn_of _ (by decide +kernel)) ggX5_partner_X2_partnerOf
theorem dX5_partner_0 : decode cX5_partner 0 = .ok (.iload_n 2, 1) := by decide +kernel
theorem dX5_partner_1 : decode cX5_partner 1 = .ok (.invokestatic 99, 3) := by decide +kernel
theorem dX5_partner_4 : decode cX5_partner 4 = .ok (.ifCond .ne 5, 3) := by decide +kernel
theorem dX5_partner_7 : decode cX5_partner 7 = .ok (.iconst (-1), 1) := by decide +kernel
theorem dX5_partner_8 : decode cX5_partner 8 = .ok (.ireturn, 1) := by decide +kernel
theorem dX5_partner_9 : decode cX5_partner 9 = .ok (.aload_n 0, 1) := by decide +kernel
theorem dX5_partner_10 : decode cX5_partner 10 = .ok (.getfield 39, 3) := by decide +kernel
theorem dX5_partner_13 : decode cX5_partner 13 = .ok (.aload_n 0, 1) := by decide +kernel
theorem dX5_partner_14 : decode cX5_partner 14 = .ok (.getfield 12, 3) := by decide +kernel
theorem dX5_partner_17 : decode cX5_partner 17 = .ok (.invokevirtual 160, 3) := by decide +kernel
theorem dX5_partner_20 : decode cX5_partner 20 = .ok (.aload_n 0, 1) := by decide +kernel
theorem dX5_partner_21 : decode cX5_partner 21 = .ok (.getfield 39, 3) := by decide +kernel
theorem dX5_partner_24 : decode cX5_partner 24 = .ok (.iload_n 1, 1) := by decide +kernel
theorem dX5_partner_25 : decode cX5_partner 25 = .ok (.iload_n 2, 1) := by decide +kernel
theorem dX5_partner_26 : decode cX5_partner 26 = .ok (.invokevirtual 163, 3) := by decide +kernel
theorem dX5_partner_29 : decode cX5_partner 29 = .ok (.ireturn, 1) := by decide +kernel
set_option maxRecDepth 20000 in
theorem ggX5_hindered_X2_takeGreatest : GoodIn wsX5_hindered wsX2_takeGreatest := goodIn_r _ [7, 8, 9, 10, 11, 12, 13, 14, 15, 16, 17, 18, 19, 20, 21, 22, 23, 24, 25, 26, 27, 28, 29, 30, 31, 32, 33, 34, 35, 36, 37, 38, 39, 40, 41, 42, 6, 43, 44, 45, 46, 47, 48, 49, 50, 51, 52, 53, 54, 55, 56, 57, 58, 59, 72, 73, 74, 75, 76, 77] (by decide +kernel) (by decide +kernel)
set_option maxRecDepth 20000 in
theorem gX5_hindered_X2_takeGreatest : GoodIn wsX5_hindered (wsV RX5 166 RX2 yX2_takeGreatest wsX2_takeGreatest) := goodIn_app (goodIn_of _ (by decide +kernel)) ggX5_hindered_X2_takeGreatest
set_option maxRecDepth 20000 in
theorem ggX5_hindered_X2_leftsWhoMayBeLeftOut : GoodIn wsX5_hindered wsX2_leftsWhoMayBeLeftOut := goodIn_r _ [63, 49, 8, 45, 46, 47, 6, 48, 44, 10, 50, 51, 52, 53, 9, 25, 26, 27, 72, 73, 74, 75, 76] (by decide +kernel) (by decide +kernel)
set_option maxRecDepth 20000 in
theorem gX5_hindered_X2_leftsWhoMayBeLeftOut : GoodIn wsX5_hindered (wsV RX5 169 RX2 yX2_leftsWhoMayBeLeftOut wsX2_leftsWhoMayBeLeftOut) := goodIn_app (goodIn_of _ (by decide +kernel)) ggX5_hindered_X2_leftsWhoMayBeLeftOut
theorem dX5_hindered_0 : decode cX5_hindered 0 = .ok (.aload_n 0, 1) := by decide +kernel
theorem dX5_hindered_1 : decode cX5_hindered 1 = .ok (.getfield 39, 3) := by decide +kernel
theorem dX5_hindered_4 : decode cX5_hindered 4 = .ok (.aload_n 0, 1) := by decide +kernel
theorem dX5_hindered_5 : decode cX5_hindered 5 = .ok (.getfield 12, 3) := by decide +kernel
theorem dX5_hindered_8 : decode cX5_hindered 8 = .ok (.invokevirtual 166, 3) := by decide +kernel
theorem dX5_hindered_11 : decode cX5_hindered 11 = .ok (.aload_n 0, 1) := by decide +kernel
theorem dX5_hindered_12 : decode cX5_hindered 12 = .ok (.getfield 39, 3) := by decide +kernel
theorem dX5_hindered_15 : decode cX5_hindered 15 = .ok (.invokevirtual 169, 3) := by decide +kernel
theorem dX5_hindered_18 : decode cX5_hindered 18 = .ok (.ireturn, 1) := by decide +kernel
set_option maxRecDepth 20000 in
theorem ggX5_planned_X5_arePeople : GoodIn wsX5_planned wsX5_arePeople := goodIn_r _ [6, 7, 8, 5, 9] (by decide +kernel) (by decide +kernel)
set_option maxRecDepth 20000 in
theorem gX5_planned_X5_arePeople : GoodIn wsX5_planned (va_wsS RX5 54 yX5_arePeople wsX5_arePeople) := goodIn_app (goodIn_of _ (by decide +kernel)) ggX5_planned_X5_arePeople
set_option maxRecDepth 20000 in
theorem ggX5_planned_X3_make : GoodIn wsX5_planned wsX3_make := goodIn_r _ [14, 15, 16, 17, 18, 19, 20, 21, 22, 23, 24, 25, 26, 27, 28, 29, 30, 5, 31, 32, 33, 34, 35, 36, 37, 38, 39, 40, 41, 42, 43, 44, 45, 46, 13, 47, 48, 49, 50, 51, 52, 53, 54, 55, 56, 57, 58, 59, 60, 61, 62, 63, 8, 9, 64, 65, 66, 67, 68, 69, 70, 71, 81, 82] (by decide +kernel) (by decide +kernel)
set_option maxRecDepth 20000 in
theorem gX5_planned_X3_make : GoodIn wsX5_planned (wsV RX5 172 RX3 yX3_make wsX3_make) := goodIn_app (goodIn_of _ (by decide +kernel)) ggX5_planned_X3_make
set_option maxRecDepth 20000 in
theorem ggX5_planned_X3_numberOf : GoodIn wsX5_planned wsX3_numberOf := goodIn_r _ [55, 15, 81] (by decide +kernel) (by decide +kernel)
set_option maxRecDepth 20000 in
theorem gX5_planned_X3_numberOf : GoodIn wsX5_planned (wsV RX5 175 RX3 yX3_numberOf wsX3_numberOf) := goodIn_app (goodIn_of _ (by decide +kernel)) ggX5_planned_X3_numberOf
theorem dX5_planned_0 : decode cX5_planned 0 = .ok (.iload_n 1, 1) := by decide +kernel
theorem dX5_planned_1 : decode cX5_planned 1 = .ok (.iload_n 2, 1) := by decide +kernel
theorem dX5_planned_2 : decode cX5_planned 2 = .ok (.invokestatic 54, 3) := by decide +kernel
theorem dX5_planned_5 : decode cX5_planned 5 = .ok (.ifCond .ne 5, 3) := by decide +kernel
theorem dX5_planned_8 : decode cX5_planned 8 = .ok (.iconst (-1), 1) := by decide +kernel
theorem dX5_planned_9 : decode cX5_planned 9 = .ok (.ireturn, 1) := by decide +kernel
theorem dX5_planned_10 : decode cX5_planned 10 = .ok (.aload_n 0, 1) := by decide +kernel
theorem dX5_planned_11 : decode cX5_planned 11 = .ok (.getfield 46, 3) := by decide +kernel
theorem dX5_planned_14 : decode cX5_planned 14 = .ok (.aload_n 0, 1) := by decide +kernel
theorem dX5_planned_15 : decode cX5_planned 15 = .ok (.getfield 12, 3) := by decide +kernel
theorem dX5_planned_18 : decode cX5_planned 18 = .ok (.invokevirtual 172, 3) := by decide +kernel
theorem dX5_planned_21 : decode cX5_planned 21 = .ok (.aload_n 0, 1) := by decide +kernel
theorem dX5_planned_22 : decode cX5_planned 22 = .ok (.getfield 46, 3) := by decide +kernel
theorem dX5_planned_25 : decode cX5_planned 25 = .ok (.iload_n 1, 1) := by decide +kernel
theorem dX5_planned_26 : decode cX5_planned 26 = .ok (.iload_n 2, 1) := by decide +kernel
theorem dX5_planned_27 : decode cX5_planned 27 = .ok (.invokevirtual 175, 3) := by decide +kernel
theorem dX5_planned_30 : decode cX5_planned 30 = .ok (.ireturn, 1) := by decide +kernel
set_option maxRecDepth 20000 in
theorem ggX5_count_X0_numberOfWishes : GoodIn wsX5_count wsX0_numberOfWishes := goodIn_r _ [8, 9, 10, 11, 12, 13, 14, 15, 16, 137] (by decide +kernel) (by decide +kernel)
set_option maxRecDepth 20000 in
theorem gX5_count_X0_numberOfWishes : GoodIn wsX5_count (wsV RX5 69 RX0 yX0_numberOfWishes wsX0_numberOfWishes) := goodIn_app (goodIn_of _ (by decide +kernel)) ggX5_count_X0_numberOfWishes
set_option maxRecDepth 20000 in
theorem ggX5_count_X0_amountOfAll : GoodIn wsX5_count wsX0_amountOfAll := goodIn_r _ [20, 21, 22, 23, 7, 24, 25, 26, 27, 28, 29, 30, 31, 32, 9, 33, 34, 35, 36, 37, 38, 39, 40, 41, 42, 43, 44, 45, 46, 47, 48, 49, 50, 51, 52, 53, 54, 55, 56, 57, 137] (by decide +kernel) (by decide +kernel)
