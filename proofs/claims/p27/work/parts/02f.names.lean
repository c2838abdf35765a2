theorem dX5_undo_28 : decode cX5_undo 28 = .ok (.invokevirtual 138, 3) := by decide +kernel
theorem dX5_undo_31 : decode cX5_undo 31 = .ok (.ireturn, 1) := by decide +kernel
set_option maxRecDepth 20000 in
theorem ggX5_save_X0_copyFrom : GoodIn wsX5_save wsX0_copyFrom := goodIn_r _ [8, 9, 10, 11, 12, 13, 33] (by decide +kernel) (by decide +kernel)
set_option maxRecDepth 20000 in
theorem gX5_save_X0_copyFrom : GoodIn wsX5_save (wsV RX5 144 RX0 yX0_copyFrom wsX0_copyFrom) := goodIn_app (goodIn_of _ (by decide +kernel)) ggX5_save_X0_copyFrom
set_option maxRecDepth 20000 in
theorem ggX5_save_X0_numberOfWishes : GoodIn wsX5_save wsX0_numberOfWishes := goodIn_r _ [17, 9, 18, 19, 20, 21, 22, 23, 24, 33] (by decide +kernel) (by decide +kernel)
set_option maxRecDepth 20000 in
theorem gX5_save_X0_numberOfWishes : GoodIn wsX5_save (wsV RX5 69 RX0 yX0_numberOfWishes wsX0_numberOfWishes) := goodIn_app (goodIn_of _ (by decide +kernel)) ggX5_save_X0_numberOfWishes
theorem dX5_save_0 : decode cX5_save 0 = .ok (.aload_n 0, 1) := by decide +kernel
theorem dX5_save_1 : decode cX5_save 1 = .ok (.getfield 19, 3) := by decide +kernel
theorem dX5_save_4 : decode cX5_save 4 = .ok (.aload_n 0, 1) := by decide +kernel
theorem dX5_save_5 : decode cX5_save 5 = .ok (.getfield 12, 3) := by decide +kernel
theorem dX5_save_8 : decode cX5_save 8 = .ok (.invokevirtual 144, 3) := by decide +kernel
theorem dX5_save_11 : decode cX5_save 11 = .ok (.aload_n 0, 1) := by decide +kernel
theorem dX5_save_12 : decode cX5_save 12 = .ok (.iconst 1, 1) := by decide +kernel
theorem dX5_save_13 : decode cX5_save 13 = .ok (.putfield 50, 3) := by decide +kernel
theorem dX5_save_16 : decode cX5_save 16 = .ok (.aload_n 0, 1) := by decide +kernel
theorem dX5_save_17 : decode cX5_save 17 = .ok (.getfield 12, 3) := by decide +kernel
theorem dX5_save_20 : decode cX5_save 20 = .ok (.invokevirtual 69, 3) := by decide +kernel
theorem dX5_save_23 : decode cX5_save 23 = .ok (.ireturn, 1) := by decide +kernel
set_option maxRecDepth 20000 in
theorem ggX5_restore_X1_keep : GoodIn wsX5_restore wsX1_keep := goodIn_r _ [9, 10, 11, 12, 13, 14, 15, 16, 17, 18, 19, 8, 20, 47, 48, 49, 50] (by decide +kernel) (by decide +kernel)
set_option maxRecDepth 20000 in
theorem gX5_restore_X1_keep : GoodIn wsX5_restore (wsV RX5 61 RX1 yX1_keep wsX1_keep) := goodIn_app (goodIn_of _ (by decide +kernel)) ggX5_restore_X1_keep
set_option maxRecDepth 20000 in
theorem ggX5_restore_X0_copyFrom : GoodIn wsX5_restore wsX0_copyFrom := goodIn_r _ [25, 26, 27, 14, 15, 16, 50] (by decide +kernel) (by decide +kernel)
set_option maxRecDepth 20000 in
theorem gX5_restore_X0_copyFrom : GoodIn wsX5_restore (wsV RX5 144 RX0 yX0_copyFrom wsX0_copyFrom) := goodIn_app (goodIn_of _ (by decide +kernel)) ggX5_restore_X0_copyFrom
set_option maxRecDepth 20000 in
theorem ggX5_restore_X0_numberOfWishes : GoodIn wsX5_restore wsX0_numberOfWishes := goodIn_r _ [31, 26, 32, 33, 34, 35, 36, 37, 38, 50] (by decide +kernel) (by decide +kernel)
set_option maxRecDepth 20000 in
theorem gX5_restore_X0_numberOfWishes : GoodIn wsX5_restore (wsV RX5 69 RX0 yX0_numberOfWishes wsX0_numberOfWishes) := goodIn_app (goodIn_of _ (by decide +kernel)) ggX5_restore_X0_numberOfWishes
theorem dX5_restore_0 : decode cX5_restore 0 = .ok (.aload_n 0, 1) := by decide +kernel
theorem dX5_restore_1 : decode cX5_restore 1 = .ok (.getfield 50, 3) := by decide +kernel
theorem dX5_restore_4 : decode cX5_restore 4 = .ok (.ifCond .ne 6, 3) := by decide +kernel
theorem dX5_restore_7 : decode cX5_restore 7 = .ok (.bipush (-4), 2) := by decide +kernel
theorem dX5_restore_9 : decode cX5_restore 9 = .ok (.ireturn, 1) := by decide +kernel
theorem dX5_restore_10 : decode cX5_restore 10 = .ok (.aload_n 0, 1) := by decide +kernel
theorem dX5_restore_11 : decode cX5_restore 11 = .ok (.getfield 25, 3) := by decide +kernel
theorem dX5_restore_14 : decode cX5_restore 14 = .ok (.aload_n 0, 1) := by decide +kernel
theorem dX5_restore_15 : decode cX5_restore 15 = .ok (.getfield 12, 3) := by decide +kernel
theorem dX5_restore_18 : decode cX5_restore 18 = .ok (.invokevirtual 61, 3) := by decide +kernel
theorem dX5_restore_21 : decode cX5_restore 21 = .ok (.aload_n 0, 1) := by decide +kernel
theorem dX5_restore_22 : decode cX5_restore 22 = .ok (.getfield 12, 3) := by decide +kernel
theorem dX5_restore_25 : decode cX5_restore 25 = .ok (.aload_n 0, 1) := by decide +kernel
theorem dX5_restore_26 : decode cX5_restore 26 = .ok (.getfield 19, 3) := by decide +kernel
theorem dX5_restore_29 : decode cX5_restore 29 = .ok (.invokevirtual 144, 3) := by decide +kernel
theorem dX5_restore_32 : decode cX5_restore 32 = .ok (.aload_n 0, 1) := by decide +kernel
theorem dX5_restore_33 : decode cX5_restore 33 = .ok (.getfield 12, 3) := by decide +kernel
theorem dX5_restore_36 : decode cX5_restore 36 = .ok (.invokevirtual 69, 3) := by decide +kernel
theorem dX5_restore_39 : decode cX5_restore 39 = .ok (.ireturn, 1) := by decide +kernel
set_option maxRecDepth 20000 in
theorem ggX5_person_X5_isPerson : GoodIn wsX5_person wsX5_isPerson := goodIn_r _ [5] (by decide +kernel) (by decide +kernel)
set_option maxRecDepth 20000 in
theorem gX5_person_X5_isPerson : GoodIn wsX5_person (va_wsS RX5 99 yX5_isPerson wsX5_isPerson) := goodIn_app (goodIn_of _ (by decide +kernel)) ggX5_person_X5_isPerson
set_option maxRecDepth 20000 in
theorem ggX5_person_X0_gateOf : GoodIn wsX5_person wsX0_gateOf := goodIn_r _ [10, 11, 60] (by decide +kernel) (by decide +kernel)
set_option maxRecDepth 20000 in
theorem gX5_person_X0_gateOf : GoodIn wsX5_person (wsV RX5 102 RX0 yX0_gateOf wsX0_gateOf) := goodIn_app (goodIn_of _ (by decide +kernel)) ggX5_person_X0_gateOf
set_option maxRecDepth 20000 in
theorem ggX5_person_X0_amountOfPerson : GoodIn wsX5_person wsX0_amountOfPerson := goodIn_r _ [15, 16, 17, 18, 9, 19, 20, 21, 22, 23, 11, 24, 4, 25, 26, 27, 28, 29, 30, 31, 32, 33, 34, 35, 36, 37, 38, 39, 40, 41, 42, 43, 44, 45, 46, 47, 60] (by decide +kernel) (by decide +kernel)
set_option maxRecDepth 20000 in
theorem gX5_person_X0_amountOfPerson : GoodIn wsX5_person (wsV RX5 147 RX0 yX0_amountOfPerson wsX0_amountOfPerson) := goodIn_app (goodIn_of _ (by decide +kernel)) ggX5_person_X0_amountOfPerson
set_option maxRecDepth 20000 in
theorem ggX5_person_X0_peopleToMeet : GoodIn wsX5_person wsX0_peopleToMeet := goodIn_r _ [51, 32, 33, 34, 9, 35, 36, 37, 38, 39, 11, 40, 41, 42, 43, 60] (by decide +kernel) (by decide +kernel)
set_option maxRecDepth 20000 in
theorem gX5_person_X0_peopleToMeet : GoodIn wsX5_person (wsV RX5 151 RX0 yX0_peopleToMeet wsX0_peopleToMeet) := goodIn_app (goodIn_of _ (by decide +kernel)) ggX5_person_X0_peopleToMeet
theorem dX5_person_0 : decode cX5_person 0 = .ok (.iload_n 2, 1) := by decide +kernel
theorem dX5_person_1 : decode cX5_person 1 = .ok (.invokestatic 99, 3) := by decide +kernel
theorem dX5_person_4 : decode cX5_person 4 = .ok (.ifCond .ne 5, 3) := by decide +kernel
theorem dX5_person_7 : decode cX5_person 7 = .ok (.iconst (-1), 1) := by decide +kernel
theorem dX5_person_8 : decode cX5_person 8 = .ok (.ireturn, 1) := by decide +kernel
theorem dX5_person_9 : decode cX5_person 9 = .ok (.iload_n 3, 1) := by decide +kernel
theorem dX5_person_10 : decode cX5_person 10 = .ok (.tableswitch 69 0 5 #[38, 48, 48, 48, 48, 59], 38) := by decide +kernel
theorem dX5_person_48 : decode cX5_person 48 = .ok (.aload_n 0, 1) := by decide +kernel
theorem dX5_person_49 : decode cX5_person 49 = .ok (.getfield 12, 3) := by decide +kernel
theorem dX5_person_52 : decode cX5_person 52 = .ok (.iload_n 1, 1) := by decide +kernel
theorem dX5_person_53 : decode cX5_person 53 = .ok (.iload_n 2, 1) := by decide +kernel
theorem dX5_person_54 : decode cX5_person 54 = .ok (.invokevirtual 102, 3) := by decide +kernel
theorem dX5_person_57 : decode cX5_person 57 = .ok (.ireturn, 1) := by decide +kernel
theorem dX5_person_58 : decode cX5_person 58 = .ok (.aload_n 0, 1) := by decide +kernel
theorem dX5_person_59 : decode cX5_person 59 = .ok (.getfield 12, 3) := by decide +kernel
theorem dX5_person_62 : decode cX5_person 62 = .ok (.iload_n 1, 1) := by decide +kernel
theorem dX5_person_63 : decode cX5_person 63 = .ok (.iload_n 2, 1) := by decide +kernel
theorem dX5_person_64 : decode cX5_person 64 = .ok (.iload_n 3, 1) := by decide +kernel
theorem dX5_person_65 : decode cX5_person 65 = .ok (.invokevirtual 147, 3) := by decide +kernel
theorem dX5_person_68 : decode cX5_person 68 = .ok (.ireturn, 1) := by decide +kernel
theorem dX5_person_69 : decode cX5_person 69 = .ok (.aload_n 0, 1) := by decide +kernel
theorem dX5_person_70 : decode cX5_person 70 = .ok (.getfield 12, 3) := by decide +kernel
theorem dX5_person_73 : decode cX5_person 73 = .ok (.iload_n 1, 1) := by decide +kernel
theorem dX5_person_74 : decode cX5_person 74 = .ok (.iload_n 2, 1) := by decide +kernel
theorem dX5_person_75 : decode cX5_person 75 = .ok (.invokevirtual 151, 3) := by decide +kernel
theorem dX5_person_78 : decode cX5_person 78 = .ok (.ireturn, 1) := by decide +kernel
theorem dX5_person_79 : decode cX5_person 79 = .ok (.bipush (-2), 2) := by decide +kernel
theorem dX5_person_81 : decode cX5_person 81 = .ok (.ireturn, 1) := by decide +kernel
set_option maxRecDepth 20000 in
theorem ggX5_pair_X5_arePeople : GoodIn wsX5_pair wsX5_arePeople := goodIn_r _ [5, 6, 7, 4, 8] (by decide +kernel) (by decide +kernel)
set_option maxRecDepth 20000 in
theorem gX5_pair_X5_arePeople : GoodIn wsX5_pair (va_wsS RX5 54 yX5_arePeople wsX5_arePeople) := goodIn_app (goodIn_of _ (by decide +kernel)) ggX5_pair_X5_arePeople
set_option maxRecDepth 20000 in
theorem ggX5_pair_X0_hasWish : GoodIn wsX5_pair wsX0_hasWish := goodIn_r _ [13, 14, 15, 4, 16, 98] (by decide +kernel) (by decide +kernel)
set_option maxRecDepth 20000 in
theorem gX5_pair_X0_hasWish : GoodIn wsX5_pair (wsV RX5 58 RX0 yX0_hasWish wsX0_hasWish) := goodIn_app (goodIn_of _ (by decide +kernel)) ggX5_pair_X0_hasWish
set_option maxRecDepth 20000 in
theorem ggX5_pair_X5_asNumber : GoodIn wsX5_pair wsX5_asNumber := goodIn_r _ [19] (by decide +kernel) (by decide +kernel)
set_option maxRecDepth 20000 in
theorem gX5_pair_X5_asNumber : GoodIn wsX5_pair (va_wsS RX5 91 yX5_asNumber wsX5_asNumber) := goodIn_app (goodIn_of _ (by decide +kernel)) ggX5_pair_X5_asNumber
set_option maxRecDepth 20000 in
theorem ggX5_pair_X0_feudOf : GoodIn wsX5_pair wsX0_feudOf := goodIn_r _ [23, 14, 98] (by decide +kernel) (by decide +kernel)
set_option maxRecDepth 20000 in
theorem gX5_pair_X0_feudOf : GoodIn wsX5_pair (wsV RX5 76 RX0 yX0_feudOf wsX0_feudOf) := goodIn_app (goodIn_of _ (by decide +kernel)) ggX5_pair_X0_feudOf
set_option maxRecDepth 20000 in
theorem ggX5_pair_X0_handshakesOf : GoodIn wsX5_pair wsX0_handshakesOf := goodIn_r _ [27, 14, 98] (by decide +kernel) (by decide +kernel)
set_option maxRecDepth 20000 in
theorem gX5_pair_X0_handshakesOf : GoodIn wsX5_pair (wsV RX5 154 RX0 yX0_handshakesOf wsX0_handshakesOf) := goodIn_app (goodIn_of _ (by decide +kernel)) ggX5_pair_X0_handshakesOf
set_option maxRecDepth 20000 in
theorem ggX5_pair_X5_reasonAgainst : GoodIn wsX5_pair wsX5_reasonAgainst := goodIn_r _ [31, 1, 32, 9, 10, 11, 12, 13, 14, 15, 4, 16, 33, 34, 35, 36, 20, 21, 22, 23, 37, 38, 39, 40, 41, 42, 43, 44, 45, 46, 47, 48, 49, 50, 51, 52, 53, 54, 55, 56, 57, 58, 59, 60, 61, 62, 63, 64, 65, 66, 67, 68, 69, 70, 71, 72, 73, 74, 75, 76, 77, 7, 8, 78, 79, 80, 81, 82, 83, 84, 85, 86, 87, 88, 89, 90, 91, 92, 93, 94, 95, 96, 97, 98, 99, 100, 101, 102, 103] (by decide +kernel) (by decide +kernel)
set_option maxRecDepth 20000 in
theorem gX5_pair_X5_reasonAgainst : GoodIn wsX5_pair (wsV RX5 157 RX5 yX5_reasonAgainst wsX5_reasonAgainst) := goodIn_app (goodIn_of _ (by decide +kernel)) ggX5_pair_X5_reasonAgainst
theorem dX5_pair_0 : decode cX5_pair 0 = .ok (.iload_n 1, 1) := by decide +kernel
theorem dX5_pair_1 : decode cX5_pair 1 = .ok (.iload_n 2, 1) := by decide +kernel
theorem dX5_pair_2 : decode cX5_pair 2 = .ok (.invokestatic 54, 3) := by decide +kernel
theorem dX5_pair_5 : decode cX5_pair 5 = .ok (.ifCond .ne 5, 3) := by decide +kernel
theorem dX5_pair_8 : decode cX5_pair 8 = .ok (.iconst (-1), 1) := by decide +kernel
theorem dX5_pair_9 : decode cX5_pair 9 = .ok (.ireturn, 1) := by decide +kernel
theorem dX5_pair_10 : decode cX5_pair 10 = .ok (.iload_n 3, 1) := by decide +kernel
theorem dX5_pair_11 : decode cX5_pair 11 = .ok (.tableswitch 69 0 3 #[29, 42, 52, 62], 29) := by decide +kernel
theorem dX5_pair_40 : decode cX5_pair 40 = .ok (.aload_n 0, 1) := by decide +kernel
theorem dX5_pair_41 : decode cX5_pair 41 = .ok (.getfield 12, 3) := by decide +kernel
theorem dX5_pair_44 : decode cX5_pair 44 = .ok (.iload_n 1, 1) := by decide +kernel
theorem dX5_pair_45 : decode cX5_pair 45 = .ok (.iload_n 2, 1) := by decide +kernel
theorem dX5_pair_46 : decode cX5_pair 46 = .ok (.invokevirtual 58, 3) := by decide +kernel
theorem dX5_pair_49 : decode cX5_pair 49 = .ok (.invokestatic 91, 3) := by decide +kernel
theorem dX5_pair_52 : decode cX5_pair 52 = .ok (.ireturn, 1) := by decide +kernel
theorem dX5_pair_53 : decode cX5_pair 53 = .ok (.aload_n 0, 1) := by decide +kernel
theorem dX5_pair_54 : decode cX5_pair 54 = .ok (.getfield 12, 3) := by decide +kernel
theorem dX5_pair_57 : decode cX5_pair 57 = .ok (.iload_n 1, 1) := by decide +kernel
theorem dX5_pair_58 : decode cX5_pair 58 = .ok (.iload_n 2, 1) := by decide +kernel
theorem dX5_pair_59 : decode cX5_pair 59 = .ok (.invokevirtual 76, 3) := by decide +kernel
theorem dX5_pair_62 : decode cX5_pair 62 = .ok (.ireturn, 1) := by decide +kernel
theorem dX5_pair_63 : decode cX5_pair 63 = .ok (.aload_n 0, 1) := by decide +kernel
theorem dX5_pair_64 : decode cX5_pair 64 = .ok (.getfield 12, 3) := by decide +kernel
theorem dX5_pair_67 : decode cX5_pair 67 = .ok (.iload_n 1, 1) := by decide +kernel
theorem dX5_pair_68 : decode cX5_pair 68 = .ok (.iload_n 2, 1) := by decide +kernel
theorem dX5_pair_69 : decode cX5_pair 69 = .ok (.invokevirtual 154, 3) := by decide +kernel
theorem dX5_pair_72 : decode cX5_pair 72 = .ok (.ireturn, 1) := by decide +kernel
theorem dX5_pair_73 : decode cX5_pair 73 = .ok (.aload_n 0, 1) := by decide +kernel
theorem dX5_pair_74 : decode cX5_pair 74 = .ok (.iload_n 1, 1) := by decide +kernel
theorem dX5_pair_75 : decode cX5_pair 75 = .ok (.iload_n 2, 1) := by decide +kernel
theorem dX5_pair_76 : decode cX5_pair 76 = .ok (.invokevirtual 157, 3) := by decide +kernel
theorem dX5_pair_79 : decode cX5_pair 79 = .ok (.ireturn, 1) := by decide +kernel
theorem dX5_pair_80 : decode cX5_pair 80 = .ok (.bipush (-2), 2) := by decide +kernel
theorem dX5_pair_82 : decode cX5_pair 82 = .ok (.ireturn, 1) := by decide +kernel
set_option maxRecDepth 20000 in
theorem ggX5_isLinked_X5_isGate : GoodIn wsX5_isLinked wsX5_isGate := goodIn_r _ [5] (by decide +kernel) (by decide +kernel)
set_option maxRecDepth 20000 in
theorem gX5_isLinked_X5_isGate : GoodIn wsX5_isLinked (va_wsS RX5 84 yX5_isGate wsX5_isGate) := goodIn_app (goodIn_of _ (by decide +kernel)) ggX5_isLinked_X5_isGate
set_option maxRecDepth 20000 in
theorem ggX5_isLinked_X0_areLinked : GoodIn wsX5_isLinked wsX0_areLinked := goodIn_r _ [10, 11, 12, 4, 13, 25] (by decide +kernel) (by decide +kernel)
set_option maxRecDepth 20000 in
theorem gX5_isLinked_X0_areLinked : GoodIn wsX5_isLinked (wsV RX5 88 RX0 yX0_areLinked wsX0_areLinked) := goodIn_app (goodIn_of _ (by decide +kernel)) ggX5_isLinked_X0_areLinked
set_option maxRecDepth 20000 in
theorem ggX5_isLinked_X5_asNumber : GoodIn wsX5_isLinked wsX5_asNumber := goodIn_r _ [16] (by decide +kernel) (by decide +kernel)
set_option maxRecDepth 20000 in
theorem gX5_isLinked_X5_asNumber : GoodIn wsX5_isLinked (va_wsS RX5 91 yX5_asNumber wsX5_asNumber) := goodIn_app (goodIn_of _ (by decide +kernel)) ggX5_isLinked_X5_asNumber
theorem dX5_isLinked_0 : decode cX5_isLinked 0 = .ok (.iload_n 1, 1) := by decide +kernel
theorem dX5_isLinked_1 : decode cX5_isLinked 1 = .ok (.invokestatic 84, 3) := by decide +kernel
theorem dX5_isLinked_4 : decode cX5_isLinked 4 = .ok (.ifCond .eq 10, 3) := by decide +kernel
theorem dX5_isLinked_7 : decode cX5_isLinked 7 = .ok (.iload_n 2, 1) := by decide +kernel
theorem dX5_isLinked_8 : decode cX5_isLinked 8 = .ok (.invokestatic 84, 3) := by decide +kernel
theorem dX5_isLinked_11 : decode cX5_isLinked 11 = .ok (.ifCond .ne 5, 3) := by decide +kernel
theorem dX5_isLinked_14 : decode cX5_isLinked 14 = .ok (.iconst (-1), 1) := by decide +kernel
theorem dX5_isLinked_15 : decode cX5_isLinked 15 = .ok (.ireturn, 1) := by decide +kernel
theorem dX5_isLinked_16 : decode cX5_isLinked 16 = .ok (.aload_n 0, 1) := by decide +kernel
theorem dX5_isLinked_17 : decode cX5_isLinked 17 = .ok (.getfield 12, 3) := by decide +kernel
theorem dX5_isLinked_20 : decode cX5_isLinked 20 = .ok (.iload_n 1, 1) := by decide +kernel
theorem dX5_isLinked_21 : decode cX5_isLinked 21 = .ok (.iload_n 2, 1) := by decide +kernel
theorem dX5_isLinked_22 : decode cX5_isLinked 22 = .ok (.invokevirtual 88, 3) := by decide +kernel
theorem dX5_isLinked_25 : decode cX5_isLinked 25 = .ok (.invokestatic 91, 3) := by decide +kernel
theorem dX5_isLinked_28 : decode cX5_isLinked 28 = .ok (.ireturn, 1) := by decide +kernel
set_option maxRecDepth 20000 in
theorem ggX5_partner_X5_isPerson : GoodIn wsX5_partner wsX5_isPerson := goodIn_r _ [6] (by decide +kernel) (by decide +kernel)
set_option maxRecDepth 20000 in
theorem gX5_partner_X5_isPerson : GoodIn wsX5_partner (va_wsS RX5 99 yX5_isPerson wsX5_isPerson) := goodIn_app (goodIn_of _ (by decide +kernel)) ggX5_partner_X5_isPerson
set_option maxRecDepth 20000 in
theorem ggX5_partner_X2_takeFirst : GoodIn wsX5_partner wsX2_takeFirst := goodIn_r _ [11, 12, 13, 14, 15, 16, 10, 17, 18, 19, 20, 21, 22, 23, 24, 25, 26, 27, 28, 29, 30, 31, 32, 33, 5, 34, 35, 36, 37, 38, 39, 40, 41, 42, 43, 44, 45, 46, 47, 48, 49, 50, 51, 52, 53, 54, 55, 56, 57, 58, 59, 60, 4, 6, 61, 62, 63, 64, 65, 66, 67, 68, 81, 82, 83, 84, 85, 86] (by decide +kernel) (by decide +kernel)
set_option maxRecDepth 20000 in
theorem gX5_partner_X2_takeFirst : GoodIn wsX5_partner (wsV RX5 160 RX2 yX2_takeFirst wsX2_takeFirst) := goodIn_app (goodIn_of _ (by decide +kernel)) ggX5_partner_X2_takeFirst
set_option maxRecDepth 20000 in
theorem ggX5_partner_X2_partnerOf : GoodIn wsX5_partner wsX2_partnerOf := goodIn_r _ [72, 12, 18, 81, 82, 83, 84, 85] (by decide +kernel) (by decide +kernel)
set_option maxRecDepth 20000 in
theorem gX5_partner_X2_partnerOf : GoodIn wsX5_partner (wsV RX5 163 RX2 yX2_partnerOf wsX2_partnerOf) := goodIn_app (goodIn_of _ (by decide +kernel)) ggX5_partner_X2_partnerOf
theorem dX5_partner_0 : decode cX5_partner 0 = .ok (.iload_n 2, 1) := by decide +kernel
theorem dX5_partner_1 : decode cX5_partner 1 = .ok (.invokestatic 99, 3) := by decide +kernel
theorem dX5_partner_4 : decode cX5_partner 4 = .ok (.ifCond .ne 5, 3) := by decide +kernel
theorem dX5_partner_7 : decode cX5_partner 7 = .ok (.iconst (-1), 1) := by decide +kernel
theorem dX5_partner_8 : decode cX5_partner 8 = .ok (.ireturn, 1) := by decide +kernel
theorem dX5_partner_9 : decode cX5_partner 9 = .ok (.aload_n 0, 1) := by decide +kernel
theorem dX5_partner_10 : decode cX5_partner 10 = .ok (.getfield 39, 3) := by decide +kernel
theorem dX5_partner_13 : decode cX5_partner 13 = .ok (.aload_n 0, 1) := by decide +kernel
theorem dX5_partner_14 : decode cX5_partner 14 = .ok (.getfield 12, 3) := by decide +kernel
theorem dX5_partner_17 : decode cX5_partner 17 = .ok (.invokevirtual 160, 3) := by decide +kernel
theorem dX5_partner_20 : decode cX5_partner 20 = .ok (.aload_n 0, 1) := by decide +kernel
theorem dX5_partner_21 : decode cX5_partner 21 = .ok (.getfield 39, 3) := by decide +kernel
theorem dX5_partner_24 : decode cX5_partner 24 = .ok (.iload_n 1, 1) := by decide +kernel
theorem dX5_partner_25 : decode cX5_partner 25 = .ok (.iload_n 2, 1) := by decide +kernel
theorem dX5_partner_26 : decode cX5_partner 26 = .ok (.invokevirtual 163, 3) := by decide +kernel
theorem dX5_partner_29 : decode cX5_partner 29 = .ok (.ireturn, 1) := by decide +kernel
set_option maxRecDepth 20000 in
theorem ggX5_hindered_X2_takeGreatest : GoodIn wsX5_hindered wsX2_takeGreatest := goodIn_r _ [7, 8, 9, 10, 11, 12, 13, 14, 15, 16, 17, 18, 19, 20, 21, 22, 23, 24, 25, 26, 27, 28, 29, 30, 31, 32, 33, 34, 35, 36, 37, 38, 39, 40, 41, 42, 6, 43, 44, 45, 46, 47, 48, 49, 50, 51, 52, 53, 54, 55, 56, 57, 58, 59, 72, 73, 74, 75, 76, 77] (by decide +kernel) (by decide +kernel)
set_option maxRecDepth 20000 in
theorem gX5_hindered_X2_takeGreatest : GoodIn wsX5_hindered (wsV RX5 166 RX2 yX2_takeGreatest wsX2_takeGreatest) := goodIn_app (goodIn_of _ (by decide +kernel)) ggX5_hindered_X2_takeGreatest
set_option maxRecDepth 20000 in
theorem ggX5_hindered_X2_leftsWhoMayBeLeftOut : GoodIn wsX5_hindered wsX2_leftsWhoMayBeLeftOut := goodIn_r _ [63, 49, 8, 45, 46, 47, 6, 48, 44, 10, 50, 51, 52, 53, 9, 25, 26, 27, 72, 73, 74, 75, 76] (by decide +kernel) (by decide +kernel)
set_option maxRecDepth 20000 in
theorem gX5_hindered_X2_leftsWhoMayBeLeftOut : GoodIn wsX5_hindered (wsV RX5 169 RX2 yX2_leftsWhoMayBeLeftOut wsX2_leftsWhoMayBeLeftOut) := goodIn_app (goodIn_of _ (by decide +kernel)) ggX5_hindered_X2_leftsWhoMayBeLeftOut
theorem dX5_hindered_0 : decode cX5_hindered 0 = .ok (.aload_n 0, 1) := by decide +kernel
theorem dX5_hindered_1 : decode cX5_hindered 1 = .ok (.getfield 39, 3) := by decide +kernel
theorem dX5_hindered_4 : decode cX5_hindered 4 = .ok (.aload_n 0, 1) := by decide +kernel
theorem dX5_hindered_5 : decode cX5_hindered 5 = .ok (.getfield 12, 3) := by decide +kernel
theorem dX5_hindered_8 : decode cX5_hindered 8 = .ok (.invokevirtual 166, 3) := by decide +kernel
theorem dX5_hindered_11 : decode cX5_hindered 11 = .ok (.aload_n 0, 1) := by decide +kernel
theorem dX5_hindered_12 : decode cX5_hindered 12 = .ok (.getfield 39, 3) := by decide +kernel
theorem dX5_hindered_15 : decode cX5_hindered 15 = .ok (.invokevirtual 169, 3) := by decide +kernel
theorem dX5_hindered_18 : decode cX5_hindered 18 = .ok (.ireturn, 1) := by decide +kernel
set_option maxRecDepth 20000 in
theorem ggX5_count_X0_numberOfWishes : GoodIn wsX5_count wsX0_numberOfWishes := goodIn_r _ [8, 9, 10, 11, 12, 13, 14, 15, 16, 137] (by decide +kernel) (by decide +kernel)
set_option maxRecDepth 20000 in
theorem gX5_count_X0_numberOfWishes : GoodIn wsX5_count (wsV RX5 69 RX0 yX0_numberOfWishes wsX0_numberOfWishes) := goodIn_app (goodIn_of _ (by decide +kernel)) ggX5_count_X0_numberOfWishes
set_option maxRecDepth 20000 in
theorem ggX5_count_X0_amountOfAll : GoodIn wsX5_count wsX0_amountOfAll := goodIn_r _ [20, 21, 22, 23, 7, 24, 25, 26, 27, 28, 29, 30, 31, 32, 9, 33, 34, 35, 36, 37, 38, 39, 40, 41, 42, 43, 44, 45, 46, 47, 48, 49, 50, 51, 52, 53, 54, 55, 56, 57, 137] (by decide +kernel) (by decide +kernel)
set_option maxRecDepth 20000 in
theorem gX5_count_X0_amountOfAll : GoodIn wsX5_count (wsV RX5 178 RX0 yX0_amountOfAll wsX0_amountOfAll) := goodIn_app (goodIn_of _ (by decide +kernel)) ggX5_count_X0_amountOfAll
set_option maxRecDepth 20000 in
theorem ggX5_count_X0_linkedPairsOfGates : GoodIn wsX5_count wsX0_linkedPairsOfGates := goodIn_r _ [61, 9, 10, 11, 12, 13, 14, 15, 16, 137] (by decide +kernel) (by decide +kernel)
set_option maxRecDepth 20000 in
theorem gX5_count_X0_linkedPairsOfGates : GoodIn wsX5_count (wsV RX5 181 RX0 yX0_linkedPairsOfGates wsX0_linkedPairsOfGates) := goodIn_app (goodIn_of _ (by decide +kernel)) ggX5_count_X0_linkedPairsOfGates
set_option maxRecDepth 20000 in
theorem ggX5_count_X0_roundsSoFar : GoodIn wsX5_count wsX0_roundsSoFar := goodIn_r _ [65, 9, 137] (by decide +kernel) (by decide +kernel)
set_option maxRecDepth 20000 in
theorem gX5_count_X0_roundsSoFar : GoodIn wsX5_count (wsV RX5 184 RX0 yX0_roundsSoFar wsX0_roundsSoFar) := goodIn_app (goodIn_of _ (by decide +kernel)) ggX5_count_X0_roundsSoFar
set_option maxRecDepth 20000 in
theorem ggX5_count_X5_greatestSize : GoodIn wsX5_count wsX5_greatestSize := goodIn_r _ [69, 70, 71, 72, 73, 74, 75, 76, 77, 78, 79, 80, 81, 82, 83, 39, 40, 7, 41, 29, 30, 31, 32, 9, 33, 34, 35, 42, 43, 44, 45, 46, 47, 48, 49, 50, 51, 52, 53, 84, 85, 86, 87, 88, 89, 90, 91, 92, 93, 94, 95, 96, 97, 98, 99, 100, 101, 102, 103, 104, 105, 106, 107, 36, 37, 129, 130, 131, 132, 133, 134, 135, 136, 138, 139, 140, 141, 142, 137] (by decide +kernel) (by decide +kernel)
set_option maxRecDepth 20000 in
theorem gX5_count_X5_greatestSize : GoodIn wsX5_count (wsV RX5 187 RX5 yX5_greatestSize wsX5_greatestSize) := goodIn_app (goodIn_of _ (by decide +kernel)) ggX5_count_X5_greatestSize
set_option maxRecDepth 20000 in
theorem ggX5_count_X5_mostPossibleOfAPerson : GoodIn wsX5_count wsX5_mostPossibleOfAPerson := goodIn_r _ [111, 1, 112, 113, 114, 115, 116, 22, 23, 7, 24, 25, 26, 27, 28, 29, 30, 31, 32, 9, 33, 34, 35, 36, 37, 38, 39, 40, 41, 42, 43, 44, 45, 46, 47, 48, 49, 50, 51, 52, 53, 54, 55, 56, 57, 129, 130, 131, 132, 133, 134, 135, 136, 137] (by decide +kernel) (by decide +kernel)
set_option maxRecDepth 20000 in
theorem gX5_count_X5_mostPossibleOfAPerson : GoodIn wsX5_count (wsV RX5 190 RX5 yX5_mostPossibleOfAPerson wsX5_mostPossibleOfAPerson) := goodIn_app (goodIn_of _ (by decide +kernel)) ggX5_count_X5_mostPossibleOfAPerson
set_option maxRecDepth 20000 in
theorem ggX5_count_X1_size : GoodIn wsX5_count wsX1_size := goodIn_r _ [121, 122, 143, 144, 145] (by decide +kernel) (by decide +kernel)
set_option maxRecDepth 20000 in
theorem gX5_count_X1_size : GoodIn wsX5_count (wsV RX5 138 RX1 yX1_size wsX1_size) := goodIn_app (goodIn_of _ (by decide +kernel)) ggX5_count_X1_size
set_option maxRecDepth 20000 in
theorem ggX5_count_X4_length : GoodIn wsX5_count wsX4_length := goodIn_r _ [127, 128, 146, 147, 148, 149, 150, 151] (by decide +kernel) (by decide +kernel)
set_option maxRecDepth 20000 in
theorem gX5_count_X4_length : GoodIn wsX5_count (wsV RX5 122 RX4 yX4_length wsX4_length) := goodIn_app (goodIn_of _ (by decide +kernel)) ggX5_count_X4_length
theorem dX5_count_0 : decode cX5_count 0 = .ok (.iload_n 1, 1) := by decide +kernel
theorem dX5_count_1 : decode cX5_count 1 = .ok (.tableswitch 136 0 9 #[55, 63, 72, 81, 89, 97, 106, 115, 120, 128], 55) := by decide +kernel
theorem dX5_count_56 : decode cX5_count 56 = .ok (.aload_n 0, 1) := by decide +kernel
theorem dX5_count_57 : decode cX5_count 57 = .ok (.getfield 12, 3) := by decide +kernel
theorem dX5_count_60 : decode cX5_count 60 = .ok (.invokevirtual 69, 3) := by decide +kernel
theorem dX5_count_63 : decode cX5_count 63 = .ok (.ireturn, 1) := by decide +kernel
theorem dX5_count_64 : decode cX5_count 64 = .ok (.aload_n 0, 1) := by decide +kernel
theorem dX5_count_65 : decode cX5_count 65 = .ok (.getfield 12, 3) := by decide +kernel
theorem dX5_count_68 : decode cX5_count 68 = .ok (.iconst 2, 1) := by decide +kernel
theorem dX5_count_69 : decode cX5_count 69 = .ok (.invokevirtual 178, 3) := by decide +kernel
theorem dX5_count_72 : decode cX5_count 72 = .ok (.ireturn, 1) := by decide +kernel
theorem dX5_count_73 : decode cX5_count 73 = .ok (.aload_n 0, 1) := by decide +kernel
theorem dX5_count_74 : decode cX5_count 74 = .ok (.getfield 12, 3) := by decide +kernel
theorem dX5_count_77 : decode cX5_count 77 = .ok (.iconst 3, 1) := by decide +kernel
theorem dX5_count_78 : decode cX5_count 78 = .ok (.invokevirtual 178, 3) := by decide +kernel
theorem dX5_count_81 : decode cX5_count 81 = .ok (.ireturn, 1) := by decide +kernel
theorem dX5_count_82 : decode cX5_count 82 = .ok (.aload_n 0, 1) := by decide +kernel
theorem dX5_count_83 : decode cX5_count 83 = .ok (.getfield 12, 3) := by decide +kernel
theorem dX5_count_86 : decode cX5_count 86 = .ok (.invokevirtual 181, 3) := by decide +kernel
theorem dX5_count_89 : decode cX5_count 89 = .ok (.ireturn, 1) := by decide +kernel
theorem dX5_count_90 : decode cX5_count 90 = .ok (.aload_n 0, 1) := by decide +kernel
theorem dX5_count_91 : decode cX5_count 91 = .ok (.getfield 12, 3) := by decide +kernel
theorem dX5_count_94 : decode cX5_count 94 = .ok (.invokevirtual 184, 3) := by decide +kernel
theorem dX5_count_97 : decode cX5_count 97 = .ok (.ireturn, 1) := by decide +kernel
theorem dX5_count_98 : decode cX5_count 98 = .ok (.aload_n 0, 1) := by decide +kernel
theorem dX5_count_99 : decode cX5_count 99 = .ok (.getfield 12, 3) := by decide +kernel
theorem dX5_count_102 : decode cX5_count 102 = .ok (.iconst 4, 1) := by decide +kernel
theorem dX5_count_103 : decode cX5_count 103 = .ok (.invokevirtual 178, 3) := by decide +kernel
theorem dX5_count_106 : decode cX5_count 106 = .ok (.ireturn, 1) := by decide +kernel
theorem dX5_count_107 : decode cX5_count 107 = .ok (.aload_n 0, 1) := by decide +kernel
theorem dX5_count_108 : decode cX5_count 108 = .ok (.aload_n 0, 1) := by decide +kernel
theorem dX5_count_109 : decode cX5_count 109 = .ok (.getfield 12, 3) := by decide +kernel
theorem dX5_count_112 : decode cX5_count 112 = .ok (.invokevirtual 187, 3) := by decide +kernel
theorem dX5_count_115 : decode cX5_count 115 = .ok (.ireturn, 1) := by decide +kernel
theorem dX5_count_116 : decode cX5_count 116 = .ok (.aload_n 0, 1) := by decide +kernel
theorem dX5_count_117 : decode cX5_count 117 = .ok (.invokevirtual 190, 3) := by decide +kernel
theorem dX5_count_120 : decode cX5_count 120 = .ok (.ireturn, 1) := by decide +kernel
theorem dX5_count_121 : decode cX5_count 121 = .ok (.aload_n 0, 1) := by decide +kernel
theorem dX5_count_122 : decode cX5_count 122 = .ok (.getfield 25, 3) := by decide +kernel
theorem dX5_count_125 : decode cX5_count 125 = .ok (.invokevirtual 138, 3) := by decide +kernel
theorem dX5_count_128 : decode cX5_count 128 = .ok (.ireturn, 1) := by decide +kernel
theorem dX5_count_129 : decode cX5_count 129 = .ok (.aload_n 0, 1) := by decide +kernel
theorem dX5_count_130 : decode cX5_count 130 = .ok (.getfield 32, 3) := by decide +kernel
theorem dX5_count_133 : decode cX5_count 133 = .ok (.invokevirtual 122, 3) := by decide +kernel
theorem dX5_count_136 : decode cX5_count 136 = .ok (.ireturn, 1) := by decide +kernel
theorem dX5_count_137 : decode cX5_count 137 = .ok (.bipush (-2), 2) := by decide +kernel
theorem dX5_count_139 : decode cX5_count 139 = .ok (.ireturn, 1) := by decide +kernel
set_option maxRecDepth 20000 in
theorem ggX5_doneIn_X0_hasWishOverUnlinkedGates : GoodIn wsX5_doneIn wsX0_hasWishOverUnlinkedGates := goodIn_r _ [7, 8, 9, 10, 6, 11, 12, 13, 14, 15, 16, 17, 18, 19, 127] (by decide +kernel) (by decide +kernel)
set_option maxRecDepth 20000 in
theorem gX5_doneIn_X0_hasWishOverUnlinkedGates : GoodIn wsX5_doneIn (wsV RX5 193 RX0 yX0_hasWishOverUnlinkedGates wsX0_hasWishOverUnlinkedGates) := goodIn_app (goodIn_of _ (by decide +kernel)) ggX5_doneIn_X0_hasWishOverUnlinkedGates
set_option maxRecDepth 20000 in
theorem ggX5_doneIn_X0_copyFrom : GoodIn wsX5_doneIn wsX0_copyFrom := goodIn_r _ [23, 12, 24, 25, 26, 27, 127] (by decide +kernel) (by decide +kernel)
set_option maxRecDepth 20000 in
theorem gX5_doneIn_X0_copyFrom : GoodIn wsX5_doneIn (wsV RX5 144 RX0 yX0_copyFrom wsX0_copyFrom) := goodIn_app (goodIn_of _ (by decide +kernel)) ggX5_doneIn_X0_copyFrom
set_option maxRecDepth 20000 in
theorem ggX5_doneIn_X0_numberOfWishes : GoodIn wsX5_doneIn wsX0_numberOfWishes := goodIn_r _ [31, 12, 32, 33, 34, 35, 36, 37, 38, 127] (by decide +kernel) (by decide +kernel)
set_option maxRecDepth 20000 in
theorem gX5_doneIn_X0_numberOfWishes : GoodIn wsX5_doneIn (wsV RX5 69 RX0 yX0_numberOfWishes wsX0_numberOfWishes) := goodIn_app (goodIn_of _ (by decide +kernel)) ggX5_doneIn_X0_numberOfWishes
set_option maxRecDepth 20000 in
theorem ggX5_doneIn_X5_makeRound : GoodIn wsX5_doneIn wsX5_makeRound := goodIn_r _ [42, 43, 44, 45, 46, 47, 48, 49, 50, 51, 52, 53, 54, 55, 56, 57, 58, 59, 60, 61, 62, 6, 63, 8, 9, 10, 11, 12, 13, 14, 15, 64, 65, 66, 67, 68, 69, 70, 71, 16, 17, 18, 19, 72, 73, 74, 75, 76, 77, 78, 79, 80, 81, 82, 83, 84, 85, 86, 87, 88, 89, 90, 91, 92, 93, 94, 95, 96, 97, 98, 99, 100, 101, 102, 103, 104, 105, 106, 107, 108, 109, 110, 111, 112, 113, 114, 115, 116, 117, 118, 119, 120, 121, 122, 123, 124, 125, 126, 128, 129, 130, 131, 132, 127] (by decide +kernel) (by decide +kernel)
set_option maxRecDepth 20000 in
theorem gX5_doneIn_X5_makeRound : GoodIn wsX5_doneIn (wsV RX5 110 RX5 yX5_makeRound wsX5_makeRound) := goodIn_app (goodIn_of _ (by decide +kernel)) ggX5_doneIn_X5_makeRound
theorem dX5_doneIn_0 : decode cX5_doneIn 0 = .ok (.aload_n 0, 1) := by decide +kernel
theorem dX5_doneIn_1 : decode cX5_doneIn 1 = .ok (.getfield 12, 3) := by decide +kernel
theorem dX5_doneIn_4 : decode cX5_doneIn 4 = .ok (.invokevirtual 193, 3) := by decide +kernel
theorem dX5_doneIn_7 : decode cX5_doneIn 7 = .ok (.ifCond .eq 6, 3) := by decide +kernel
theorem dX5_doneIn_10 : decode cX5_doneIn 10 = .ok (.bipush (-5), 2) := by decide +kernel
theorem dX5_doneIn_12 : decode cX5_doneIn 12 = .ok (.ireturn, 1) := by decide +kernel
theorem dX5_doneIn_13 : decode cX5_doneIn 13 = .ok (.aload_n 0, 1) := by decide +kernel
theorem dX5_doneIn_14 : decode cX5_doneIn 14 = .ok (.getfield 16, 3) := by decide +kernel
theorem dX5_doneIn_17 : decode cX5_doneIn 17 = .ok (.aload_n 0, 1) := by decide +kernel
theorem dX5_doneIn_18 : decode cX5_doneIn 18 = .ok (.getfield 12, 3) := by decide +kernel
theorem dX5_doneIn_21 : decode cX5_doneIn 21 = .ok (.invokevirtual 144, 3) := by decide +kernel
theorem dX5_doneIn_24 : decode cX5_doneIn 24 = .ok (.iconst 0, 1) := by decide +kernel
theorem dX5_doneIn_25 : decode cX5_doneIn 25 = .ok (.istore_n 1, 1) := by decide +kernel
theorem dX5_doneIn_26 : decode cX5_doneIn 26 = .ok (.iload_n 1, 1) := by decide +kernel
theorem dX5_doneIn_27 : decode cX5_doneIn 27 = .ok (.sipush 200, 3) := by decide +kernel
theorem dX5_doneIn_30 : decode cX5_doneIn 30 = .ok (.if_icmp .gt 30, 3) := by decide +kernel
theorem dX5_doneIn_33 : decode cX5_doneIn 33 = .ok (.aload_n 0, 1) := by decide +kernel
theorem dX5_doneIn_34 : decode cX5_doneIn 34 = .ok (.getfield 16, 3) := by decide +kernel
theorem dX5_doneIn_37 : decode cX5_doneIn 37 = .ok (.invokevirtual 69, 3) := by decide +kernel
theorem dX5_doneIn_40 : decode cX5_doneIn 40 = .ok (.ifCond .ne 5, 3) := by decide +kernel
theorem dX5_doneIn_43 : decode cX5_doneIn 43 = .ok (.iload_n 1, 1) := by decide +kernel
theorem dX5_doneIn_44 : decode cX5_doneIn 44 = .ok (.ireturn, 1) := by decide +kernel
theorem dX5_doneIn_45 : decode cX5_doneIn 45 = .ok (.aload_n 0, 1) := by decide +kernel
theorem dX5_doneIn_46 : decode cX5_doneIn 46 = .ok (.aload_n 0, 1) := by decide +kernel
theorem dX5_doneIn_47 : decode cX5_doneIn 47 = .ok (.getfield 16, 3) := by decide +kernel
theorem dX5_doneIn_50 : decode cX5_doneIn 50 = .ok (.invokevirtual 110, 3) := by decide +kernel
theorem dX5_doneIn_53 : decode cX5_doneIn 53 = .ok (.pop, 1) := by decide +kernel
theorem dX5_doneIn_54 : decode cX5_doneIn 54 = .ok (.iinc 1 1, 3) := by decide +kernel
theorem dX5_doneIn_57 : decode cX5_doneIn 57 = .ok (.goto (-31), 3) := by decide +kernel
theorem dX5_doneIn_60 : decode cX5_doneIn 60 = .ok (.bipush (-5), 2) := by decide +kernel
theorem dX5_doneIn_62 : decode cX5_doneIn 62 = .ok (.ireturn, 1) := by decide +kernel
set_option maxRecDepth 20000 in
theorem ggX5_mean_X0_roundsSoFar : GoodIn wsX5_mean wsX0_roundsSoFar := goodIn_r _ [6, 7, 57] (by decide +kernel) (by decide +kernel)
set_option maxRecDepth 20000 in
theorem gX5_mean_X0_roundsSoFar : GoodIn wsX5_mean (wsV RX5 184 RX0 yX0_roundsSoFar wsX0_roundsSoFar) := goodIn_app (goodIn_of _ (by decide +kernel)) ggX5_mean_X0_roundsSoFar
set_option maxRecDepth 20000 in
theorem ggX5_mean_X0_amountOfAll : GoodIn wsX5_mean wsX0_amountOfAll := goodIn_r _ [11, 12, 13, 14, 5, 15, 16, 17, 18, 19, 20, 21, 22, 23, 7, 24, 25, 26, 27, 28, 29, 30, 31, 32, 33, 34, 35, 36, 37, 38, 39, 40, 41, 42, 43, 44, 45, 46, 47, 48, 57] (by decide +kernel) (by decide +kernel)
set_option maxRecDepth 20000 in
theorem gX5_mean_X0_amountOfAll : GoodIn wsX5_mean (wsV RX5 178 RX0 yX0_amountOfAll wsX0_amountOfAll) := goodIn_app (goodIn_of _ (by decide +kernel)) ggX5_mean_X0_amountOfAll
theorem dX5_mean_0 : decode cX5_mean 0 = .ok (.aload_n 0, 1) := by decide +kernel
theorem dX5_mean_1 : decode cX5_mean 1 = .ok (.getfield 12, 3) := by decide +kernel
theorem dX5_mean_4 : decode cX5_mean 4 = .ok (.invokevirtual 184, 3) := by decide +kernel
theorem dX5_mean_7 : decode cX5_mean 7 = .ok (.istore_n 1, 1) := by decide +kernel
theorem dX5_mean_8 : decode cX5_mean 8 = .ok (.iload_n 1, 1) := by decide +kernel
theorem dX5_mean_9 : decode cX5_mean 9 = .ok (.ifCond .ne 5, 3) := by decide +kernel
theorem dX5_mean_12 : decode cX5_mean 12 = .ok (.dconst 0, 1) := by decide +kernel
theorem dX5_mean_13 : decode cX5_mean 13 = .ok (.dreturn, 1) := by decide +kernel
theorem dX5_mean_14 : decode cX5_mean 14 = .ok (.aload_n 0, 1) := by decide +kernel
theorem dX5_mean_15 : decode cX5_mean 15 = .ok (.getfield 12, 3) := by decide +kernel
theorem dX5_mean_18 : decode cX5_mean 18 = .ok (.iconst 4, 1) := by decide +kernel
theorem dX5_mean_19 : decode cX5_mean 19 = .ok (.invokevirtual 178, 3) := by decide +kernel
theorem dX5_mean_22 : decode cX5_mean 22 = .ok (.i2d, 1) := by decide +kernel
theorem dX5_mean_23 : decode cX5_mean 23 = .ok (.iload_n 1, 1) := by decide +kernel
theorem dX5_mean_24 : decode cX5_mean 24 = .ok (.i2d, 1) := by decide +kernel
theorem dX5_mean_25 : decode cX5_mean 25 = .ok (.ddiv, 1) := by decide +kernel
theorem dX5_mean_26 : decode cX5_mean 26 = .ok (.dreturn, 1) := by decide +kernel
theorem dX5_isPerson_0 : decode cX5_isPerson 0 = .ok (.iload_n 0, 1) := by decide +kernel
theorem dX5_isPerson_1 : decode cX5_isPerson 1 = .ok (.ifCond .lt 13, 3) := by decide +kernel
theorem dX5_isPerson_4 : decode cX5_isPerson 4 = .ok (.iload_n 0, 1) := by decide +kernel
theorem dX5_isPerson_5 : decode cX5_isPerson 5 = .ok (.bipush 8, 2) := by decide +kernel
theorem dX5_isPerson_7 : decode cX5_isPerson 7 = .ok (.if_icmp .ge 7, 3) := by decide +kernel
theorem dX5_isPerson_10 : decode cX5_isPerson 10 = .ok (.iconst 1, 1) := by decide +kernel
theorem dX5_isPerson_11 : decode cX5_isPerson 11 = .ok (.goto 4, 3) := by decide +kernel
theorem dX5_isPerson_14 : decode cX5_isPerson 14 = .ok (.iconst 0, 1) := by decide +kernel
theorem dX5_isPerson_15 : decode cX5_isPerson 15 = .ok (.ireturn, 1) := by decide +kernel
set_option maxRecDepth 20000 in
theorem ggX5_arePeople_X5_isPerson : GoodIn wsX5_arePeople wsX5_isPerson := goodIn_r _ [4] (by decide +kernel) (by decide +kernel)
set_option maxRecDepth 20000 in
theorem gX5_arePeople_X5_isPerson : GoodIn wsX5_arePeople (va_wsS RX5 99 yX5_isPerson wsX5_isPerson) := goodIn_app (goodIn_of _ (by decide +kernel)) ggX5_arePeople_X5_isPerson
theorem dX5_arePeople_0 : decode cX5_arePeople 0 = .ok (.iload_n 0, 1) := by decide +kernel
theorem dX5_arePeople_1 : decode cX5_arePeople 1 = .ok (.invokestatic 99, 3) := by decide +kernel
theorem dX5_arePeople_4 : decode cX5_arePeople 4 = .ok (.ifCond .eq 14, 3) := by decide +kernel
theorem dX5_arePeople_7 : decode cX5_arePeople 7 = .ok (.iload_n 1, 1) := by decide +kernel
theorem dX5_arePeople_8 : decode cX5_arePeople 8 = .ok (.invokestatic 99, 3) := by decide +kernel
theorem dX5_arePeople_11 : decode cX5_arePeople 11 = .ok (.ifCond .eq 7, 3) := by decide +kernel
theorem dX5_arePeople_14 : decode cX5_arePeople 14 = .ok (.iconst 1, 1) := by decide +kernel
theorem dX5_arePeople_15 : decode cX5_arePeople 15 = .ok (.goto 4, 3) := by decide +kernel
theorem dX5_arePeople_18 : decode cX5_arePeople 18 = .ok (.iconst 0, 1) := by decide +kernel
theorem dX5_arePeople_19 : decode cX5_arePeople 19 = .ok (.ireturn, 1) := by decide +kernel
theorem dX5_isGate_0 : decode cX5_isGate 0 = .ok (.iload_n 0, 1) := by decide +kernel
theorem dX5_isGate_1 : decode cX5_isGate 1 = .ok (.ifCond .lt 12, 3) := by decide +kernel
theorem dX5_isGate_4 : decode cX5_isGate 4 = .ok (.iload_n 0, 1) := by decide +kernel
theorem dX5_isGate_5 : decode cX5_isGate 5 = .ok (.iconst 4, 1) := by decide +kernel
theorem dX5_isGate_6 : decode cX5_isGate 6 = .ok (.if_icmp .ge 7, 3) := by decide +kernel
theorem dX5_isGate_9 : decode cX5_isGate 9 = .ok (.iconst 1, 1) := by decide +kernel
theorem dX5_isGate_10 : decode cX5_isGate 10 = .ok (.goto 4, 3) := by decide +kernel
theorem dX5_isGate_13 : decode cX5_isGate 13 = .ok (.iconst 0, 1) := by decide +kernel
theorem dX5_isGate_14 : decode cX5_isGate 14 = .ok (.ireturn, 1) := by decide +kernel
theorem dX5_asNumber_0 : decode cX5_asNumber 0 = .ok (.iload_n 0, 1) := by decide +kernel
theorem dX5_asNumber_1 : decode cX5_asNumber 1 = .ok (.ifCond .eq 7, 3) := by decide +kernel
theorem dX5_asNumber_4 : decode cX5_asNumber 4 = .ok (.iconst 1, 1) := by decide +kernel
theorem dX5_asNumber_5 : decode cX5_asNumber 5 = .ok (.goto 4, 3) := by decide +kernel
theorem dX5_asNumber_8 : decode cX5_asNumber 8 = .ok (.iconst 0, 1) := by decide +kernel
theorem dX5_asNumber_9 : decode cX5_asNumber 9 = .ok (.ireturn, 1) := by decide +kernel
theorem dX5_hasBit_0 : decode cX5_hasBit 0 = .ok (.iload_n 0, 1) := by decide +kernel
theorem dX5_hasBit_1 : decode cX5_hasBit 1 = .ok (.iload_n 1, 1) := by decide +kernel
theorem dX5_hasBit_2 : decode cX5_hasBit 2 = .ok (.ishr, 1) := by decide +kernel
theorem dX5_hasBit_3 : decode cX5_hasBit 3 = .ok (.iconst 1, 1) := by decide +kernel
