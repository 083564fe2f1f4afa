theorem dX1_begins_46 : decode cX1_begins 46 = .ok (.iload 4, 2) := by decide +kernel
theorem dX1_begins_48 : decode cX1_begins 48 = .ok (.iconst 0, 1) := by decide +kernel
theorem dX1_begins_49 : decode cX1_begins 49 = .ok (.invokevirtual 48, 3) := by decide +kernel
theorem dX1_begins_52 : decode cX1_begins 52 = .ok (.ireturn, 1) := by decide +kernel
set_option maxRecDepth 20000 in
theorem ggX1_room_X1_tableAt : GoodIn wsX1_room wsX1_tableAt := goodIn_r _ [5, 6, 19] (by decide +kernel) (by decide +kernel)
set_option maxRecDepth 20000 in
theorem gX1_room_X1_tableAt : GoodIn wsX1_room (wsV RX1 16 RX1 yX1_tableAt wsX1_tableAt) := goodIn_app (goodIn_of _ (by decide +kernel)) ggX1_room_X1_tableAt
set_option maxRecDepth 20000 in
theorem ggX1_room_X0_makeRoom : GoodIn wsX1_room wsX0_makeRoom := goodIn_r _ [11, 12, 13, 14, 15, 10, 16, 17, 18, 20, 21, 22, 23, 24, 25, 26, 27, 28, 29, 30, 31, 32, 33] (by decide +kernel) (by decide +kernel)
set_option maxRecDepth 20000 in
theorem gX1_room_X0_makeRoom : GoodIn wsX1_room (wsV RX1 52 RX0 yX0_makeRoom wsX0_makeRoom) := goodIn_app (goodIn_of _ (by decide +kernel)) ggX1_room_X0_makeRoom
theorem dX1_room_0 : decode cX1_room 0 = .ok (.aload_n 0, 1) := by decide +kernel
theorem dX1_room_1 : decode cX1_room 1 = .ok (.iload_n 1, 1) := by decide +kernel
theorem dX1_room_2 : decode cX1_room 2 = .ok (.invokevirtual 16, 3) := by decide +kernel
theorem dX1_room_5 : decode cX1_room 5 = .ok (.astore_n 3, 1) := by decide +kernel
theorem dX1_room_6 : decode cX1_room 6 = .ok (.aload_n 3, 1) := by decide +kernel
theorem dX1_room_7 : decode cX1_room 7 = .ok (.ifnull 14, 3) := by decide +kernel
theorem dX1_room_10 : decode cX1_room 10 = .ok (.iload_n 2, 1) := by decide +kernel
theorem dX1_room_11 : decode cX1_room 11 = .ok (.iconst 1, 1) := by decide +kernel
theorem dX1_room_12 : decode cX1_room 12 = .ok (.if_icmp .lt 9, 3) := by decide +kernel
theorem dX1_room_15 : decode cX1_room 15 = .ok (.iload_n 2, 1) := by decide +kernel
theorem dX1_room_16 : decode cX1_room 16 = .ok (.bipush 40, 2) := by decide +kernel
theorem dX1_room_18 : decode cX1_room 18 = .ok (.if_icmp .le 5, 3) := by decide +kernel
theorem dX1_room_21 : decode cX1_room 21 = .ok (.iconst 0, 1) := by decide +kernel
theorem dX1_room_22 : decode cX1_room 22 = .ok (.ireturn, 1) := by decide +kernel
theorem dX1_room_23 : decode cX1_room 23 = .ok (.aload_n 3, 1) := by decide +kernel
theorem dX1_room_24 : decode cX1_room 24 = .ok (.iload_n 2, 1) := by decide +kernel
theorem dX1_room_25 : decode cX1_room 25 = .ok (.invokevirtual 52, 3) := by decide +kernel
theorem dX1_room_28 : decode cX1_room 28 = .ok (.iconst 1, 1) := by decide +kernel
theorem dX1_room_29 : decode cX1_room 29 = .ok (.ireturn, 1) := by decide +kernel
set_option maxRecDepth 20000 in
theorem ggX1_sightOf_X1_tableAt : GoodIn wsX1_sightOf wsX1_tableAt := goodIn_r _ [11, 12, 66] (by decide +kernel) (by decide +kernel)
set_option maxRecDepth 20000 in
theorem gX1_sightOf_X1_tableAt : GoodIn wsX1_sightOf (wsV RX1 16 RX1 yX1_tableAt wsX1_tableAt) := goodIn_app (goodIn_of _ (by decide +kernel)) ggX1_sightOf_X1_tableAt
set_option maxRecDepth 20000 in
theorem ggX1_sightOf_X0_settle : GoodIn wsX1_sightOf wsX0_settle := goodIn_r _ [17, 18, 19, 20, 21, 22, 23, 24, 25, 26, 27, 28, 29, 30, 31, 32, 33, 34, 16, 35, 36, 37, 38, 39, 40, 41, 42, 43, 44, 45, 46, 47, 48, 49, 50, 51, 52, 53, 54, 55, 56, 57, 58, 59, 60, 61, 62, 63, 64, 65] (by decide +kernel) (by decide +kernel)
set_option maxRecDepth 20000 in
theorem gX1_sightOf_X0_settle : GoodIn wsX1_sightOf (wsV RX1 71 RX0 yX0_settle wsX0_settle) := goodIn_app (goodIn_of _ (by decide +kernel)) ggX1_sightOf_X0_settle
theorem dX1_sightOf_0 : decode cX1_sightOf 0 = .ok (.aload_n 0, 1) := by decide +kernel
theorem dX1_sightOf_1 : decode cX1_sightOf 1 = .ok (.iload_n 1, 1) := by decide +kernel
theorem dX1_sightOf_2 : decode cX1_sightOf 2 = .ok (.invokevirtual 16, 3) := by decide +kernel
theorem dX1_sightOf_5 : decode cX1_sightOf 5 = .ok (.astore 4, 2) := by decide +kernel
theorem dX1_sightOf_7 : decode cX1_sightOf 7 = .ok (.aload 4, 2) := by decide +kernel
theorem dX1_sightOf_9 : decode cX1_sightOf 9 = .ok (.ifnull 16, 3) := by decide +kernel
theorem dX1_sightOf_12 : decode cX1_sightOf 12 = .ok (.iload_n 2, 1) := by decide +kernel
theorem dX1_sightOf_13 : decode cX1_sightOf 13 = .ok (.ifCond .lt 12, 3) := by decide +kernel
theorem dX1_sightOf_16 : decode cX1_sightOf 16 = .ok (.iload_n 2, 1) := by decide +kernel
theorem dX1_sightOf_17 : decode cX1_sightOf 17 = .ok (.aload 4, 2) := by decide +kernel
theorem dX1_sightOf_19 : decode cX1_sightOf 19 = .ok (.getfield 55, 3) := by decide +kernel
theorem dX1_sightOf_22 : decode cX1_sightOf 22 = .ok (.if_icmp .lt 5, 3) := by decide +kernel
theorem dX1_sightOf_25 : decode cX1_sightOf 25 = .ok (.iconst (-1), 1) := by decide +kernel
theorem dX1_sightOf_26 : decode cX1_sightOf 26 = .ok (.ireturn, 1) := by decide +kernel
theorem dX1_sightOf_27 : decode cX1_sightOf 27 = .ok (.iload_n 3, 1) := by decide +kernel
theorem dX1_sightOf_28 : decode cX1_sightOf 28 = .ok (.tableswitch 81 0 4 #[36, 44, 52, 60, 68], 36) := by decide +kernel
theorem dX1_sightOf_64 : decode cX1_sightOf 64 = .ok (.aload 4, 2) := by decide +kernel
theorem dX1_sightOf_66 : decode cX1_sightOf 66 = .ok (.getfield 58, 3) := by decide +kernel
theorem dX1_sightOf_69 : decode cX1_sightOf 69 = .ok (.iload_n 2, 1) := by decide +kernel
theorem dX1_sightOf_70 : decode cX1_sightOf 70 = .ok (.iaload, 1) := by decide +kernel
theorem dX1_sightOf_71 : decode cX1_sightOf 71 = .ok (.ireturn, 1) := by decide +kernel
theorem dX1_sightOf_72 : decode cX1_sightOf 72 = .ok (.aload 4, 2) := by decide +kernel
theorem dX1_sightOf_74 : decode cX1_sightOf 74 = .ok (.getfield 62, 3) := by decide +kernel
theorem dX1_sightOf_77 : decode cX1_sightOf 77 = .ok (.iload_n 2, 1) := by decide +kernel
theorem dX1_sightOf_78 : decode cX1_sightOf 78 = .ok (.iaload, 1) := by decide +kernel
theorem dX1_sightOf_79 : decode cX1_sightOf 79 = .ok (.ireturn, 1) := by decide +kernel
theorem dX1_sightOf_80 : decode cX1_sightOf 80 = .ok (.aload 4, 2) := by decide +kernel
theorem dX1_sightOf_82 : decode cX1_sightOf 82 = .ok (.getfield 65, 3) := by decide +kernel
theorem dX1_sightOf_85 : decode cX1_sightOf 85 = .ok (.iload_n 2, 1) := by decide +kernel
theorem dX1_sightOf_86 : decode cX1_sightOf 86 = .ok (.iaload, 1) := by decide +kernel
theorem dX1_sightOf_87 : decode cX1_sightOf 87 = .ok (.ireturn, 1) := by decide +kernel
theorem dX1_sightOf_88 : decode cX1_sightOf 88 = .ok (.aload 4, 2) := by decide +kernel
theorem dX1_sightOf_90 : decode cX1_sightOf 90 = .ok (.getfield 68, 3) := by decide +kernel
theorem dX1_sightOf_93 : decode cX1_sightOf 93 = .ok (.iload_n 2, 1) := by decide +kernel
theorem dX1_sightOf_94 : decode cX1_sightOf 94 = .ok (.iaload, 1) := by decide +kernel
theorem dX1_sightOf_95 : decode cX1_sightOf 95 = .ok (.ireturn, 1) := by decide +kernel
theorem dX1_sightOf_96 : decode cX1_sightOf 96 = .ok (.aload 4, 2) := by decide +kernel
theorem dX1_sightOf_98 : decode cX1_sightOf 98 = .ok (.invokevirtual 71, 3) := by decide +kernel
theorem dX1_sightOf_101 : decode cX1_sightOf 101 = .ok (.aload 4, 2) := by decide +kernel
theorem dX1_sightOf_103 : decode cX1_sightOf 103 = .ok (.getfield 74, 3) := by decide +kernel
theorem dX1_sightOf_106 : decode cX1_sightOf 106 = .ok (.iload_n 2, 1) := by decide +kernel
theorem dX1_sightOf_107 : decode cX1_sightOf 107 = .ok (.iaload, 1) := by decide +kernel
theorem dX1_sightOf_108 : decode cX1_sightOf 108 = .ok (.ireturn, 1) := by decide +kernel
theorem dX1_sightOf_109 : decode cX1_sightOf 109 = .ok (.iconst (-1), 1) := by decide +kernel
theorem dX1_sightOf_110 : decode cX1_sightOf 110 = .ok (.ireturn, 1) := by decide +kernel
set_option maxRecDepth 20000 in
theorem ggX1_least_X1_tableAt : GoodIn wsX1_least wsX1_tableAt := goodIn_r _ [5, 6, 53] (by decide +kernel) (by decide +kernel)
set_option maxRecDepth 20000 in
theorem gX1_least_X1_tableAt : GoodIn wsX1_least (wsV RX1 16 RX1 yX1_tableAt wsX1_tableAt) := goodIn_app (goodIn_of _ (by decide +kernel)) ggX1_least_X1_tableAt
set_option maxRecDepth 20000 in
theorem ggX1_least_X1_isSpan : GoodIn wsX1_least wsX1_isSpan := goodIn_r _ [9] (by decide +kernel) (by decide +kernel)
set_option maxRecDepth 20000 in
theorem gX1_least_X1_isSpan : GoodIn wsX1_least (va_wsS RX1 35 yX1_isSpan wsX1_isSpan) := goodIn_app (goodIn_of _ (by decide +kernel)) ggX1_least_X1_isSpan
set_option maxRecDepth 20000 in
theorem ggX1_least_X0_leastStep : GoodIn wsX1_least wsX0_leastStep := goodIn_r _ [14, 15, 16, 17, 18, 19, 13, 20, 21, 22, 23, 24, 25, 26, 27, 28, 29, 30, 31, 32, 33, 34, 35, 36, 37, 38, 39, 40, 41, 42, 43, 44, 45, 46, 47, 48, 49, 50, 51, 52, 54, 55, 56, 57, 58, 59, 60, 61, 62, 63, 64, 65, 66, 67] (by decide +kernel) (by decide +kernel)
set_option maxRecDepth 20000 in
theorem gX1_least_X0_leastStep : GoodIn wsX1_least (wsV RX1 77 RX0 yX0_leastStep wsX0_leastStep) := goodIn_app (goodIn_of _ (by decide +kernel)) ggX1_least_X0_leastStep
theorem dX1_least_0 : decode cX1_least 0 = .ok (.aload_n 0, 1) := by decide +kernel
theorem dX1_least_1 : decode cX1_least 1 = .ok (.iload_n 1, 1) := by decide +kernel
theorem dX1_least_2 : decode cX1_least 2 = .ok (.invokevirtual 16, 3) := by decide +kernel
theorem dX1_least_5 : decode cX1_least 5 = .ok (.astore 4, 2) := by decide +kernel
theorem dX1_least_7 : decode cX1_least 7 = .ok (.aload 4, 2) := by decide +kernel
theorem dX1_least_9 : decode cX1_least 9 = .ok (.ifnull 11, 3) := by decide +kernel
theorem dX1_least_12 : decode cX1_least 12 = .ok (.iload_n 2, 1) := by decide +kernel
theorem dX1_least_13 : decode cX1_least 13 = .ok (.iload_n 3, 1) := by decide +kernel
theorem dX1_least_14 : decode cX1_least 14 = .ok (.invokestatic 35, 3) := by decide +kernel
theorem dX1_least_17 : decode cX1_least 17 = .ok (.ifCond .ne 5, 3) := by decide +kernel
theorem dX1_least_20 : decode cX1_least 20 = .ok (.iconst (-1), 1) := by decide +kernel
theorem dX1_least_21 : decode cX1_least 21 = .ok (.ireturn, 1) := by decide +kernel
theorem dX1_least_22 : decode cX1_least 22 = .ok (.aload 4, 2) := by decide +kernel
theorem dX1_least_24 : decode cX1_least 24 = .ok (.iload_n 2, 1) := by decide +kernel
theorem dX1_least_25 : decode cX1_least 25 = .ok (.iload_n 3, 1) := by decide +kernel
theorem dX1_least_26 : decode cX1_least 26 = .ok (.invokevirtual 77, 3) := by decide +kernel
theorem dX1_least_29 : decode cX1_least 29 = .ok (.ireturn, 1) := by decide +kernel
set_option maxRecDepth 20000 in
theorem ggX1_greatest_X1_tableAt : GoodIn wsX1_greatest wsX1_tableAt := goodIn_r _ [5, 6, 53] (by decide +kernel) (by decide +kernel)
set_option maxRecDepth 20000 in
theorem gX1_greatest_X1_tableAt : GoodIn wsX1_greatest (wsV RX1 16 RX1 yX1_tableAt wsX1_tableAt) := goodIn_app (goodIn_of _ (by decide +kernel)) ggX1_greatest_X1_tableAt
set_option maxRecDepth 20000 in
theorem ggX1_greatest_X1_isSpan : GoodIn wsX1_greatest wsX1_isSpan := goodIn_r _ [9] (by decide +kernel) (by decide +kernel)
set_option maxRecDepth 20000 in
theorem gX1_greatest_X1_isSpan : GoodIn wsX1_greatest (va_wsS RX1 35 yX1_isSpan wsX1_isSpan) := goodIn_app (goodIn_of _ (by decide +kernel)) ggX1_greatest_X1_isSpan
set_option maxRecDepth 20000 in
theorem ggX1_greatest_X0_leastStep : GoodIn wsX1_greatest wsX0_leastStep := goodIn_r _ [14, 15, 16, 17, 18, 19, 13, 20, 21, 22, 23, 24, 25, 26, 27, 28, 29, 30, 31, 32, 33, 34, 35, 36, 37, 38, 39, 40, 41, 42, 43, 44, 45, 46, 47, 48, 49, 50, 51, 52, 54, 55, 56, 57, 58, 59, 60, 61, 62, 63, 64, 65, 66, 67] (by decide +kernel) (by decide +kernel)
set_option maxRecDepth 20000 in
theorem gX1_greatest_X0_leastStep : GoodIn wsX1_greatest (wsV RX1 77 RX0 yX0_leastStep wsX0_leastStep) := goodIn_app (goodIn_of _ (by decide +kernel)) ggX1_greatest_X0_leastStep
theorem dX1_greatest_0 : decode cX1_greatest 0 = .ok (.aload_n 0, 1) := by decide +kernel
theorem dX1_greatest_1 : decode cX1_greatest 1 = .ok (.iload_n 1, 1) := by decide +kernel
theorem dX1_greatest_2 : decode cX1_greatest 2 = .ok (.invokevirtual 16, 3) := by decide +kernel
theorem dX1_greatest_5 : decode cX1_greatest 5 = .ok (.astore 4, 2) := by decide +kernel
theorem dX1_greatest_7 : decode cX1_greatest 7 = .ok (.aload 4, 2) := by decide +kernel
theorem dX1_greatest_9 : decode cX1_greatest 9 = .ok (.ifnull 11, 3) := by decide +kernel
theorem dX1_greatest_12 : decode cX1_greatest 12 = .ok (.iload_n 2, 1) := by decide +kernel
theorem dX1_greatest_13 : decode cX1_greatest 13 = .ok (.iload_n 3, 1) := by decide +kernel
theorem dX1_greatest_14 : decode cX1_greatest 14 = .ok (.invokestatic 35, 3) := by decide +kernel
theorem dX1_greatest_17 : decode cX1_greatest 17 = .ok (.ifCond .ne 5, 3) := by decide +kernel
theorem dX1_greatest_20 : decode cX1_greatest 20 = .ok (.iconst (-1), 1) := by decide +kernel
theorem dX1_greatest_21 : decode cX1_greatest 21 = .ok (.ireturn, 1) := by decide +kernel
theorem dX1_greatest_22 : decode cX1_greatest 22 = .ok (.aload 4, 2) := by decide +kernel
theorem dX1_greatest_24 : decode cX1_greatest 24 = .ok (.iload_n 3, 1) := by decide +kernel
theorem dX1_greatest_25 : decode cX1_greatest 25 = .ok (.iload_n 2, 1) := by decide +kernel
theorem dX1_greatest_26 : decode cX1_greatest 26 = .ok (.invokevirtual 77, 3) := by decide +kernel
theorem dX1_greatest_29 : decode cX1_greatest 29 = .ok (.ineg, 1) := by decide +kernel
theorem dX1_greatest_30 : decode cX1_greatest 30 = .ok (.ireturn, 1) := by decide +kernel
set_option maxRecDepth 20000 in
theorem ggX1_guess_X1_tableAt : GoodIn wsX1_guess wsX1_tableAt := goodIn_r _ [6, 7, 80] (by decide +kernel) (by decide +kernel)
set_option maxRecDepth 20000 in
theorem gX1_guess_X1_tableAt : GoodIn wsX1_guess (wsV RX1 16 RX1 yX1_tableAt wsX1_tableAt) := goodIn_app (goodIn_of _ (by decide +kernel)) ggX1_guess_X1_tableAt
set_option maxRecDepth 20000 in
theorem ggX1_guess_X1_isSpan : GoodIn wsX1_guess wsX1_isSpan := goodIn_r _ [10] (by decide +kernel) (by decide +kernel)
set_option maxRecDepth 20000 in
theorem gX1_guess_X1_isSpan : GoodIn wsX1_guess (va_wsS RX1 35 yX1_isSpan wsX1_isSpan) := goodIn_app (goodIn_of _ (by decide +kernel)) ggX1_guess_X1_isSpan
set_option maxRecDepth 20000 in
theorem ggX1_guess_X0_spread : GoodIn wsX1_guess wsX0_spread := goodIn_r _ [15, 16, 17, 18, 19, 20, 21, 22, 23, 24, 25, 26, 27, 28, 29, 30, 31, 32, 33, 34, 14, 35, 36, 37, 38, 39, 40, 41, 42, 43, 44, 45, 46, 47, 48, 49, 50, 51, 52, 53, 54, 55, 56, 57, 58, 59, 60, 61, 62, 63, 64, 65, 66, 67, 68, 69, 70, 71, 72, 73, 74, 75, 76, 77, 78, 79] (by decide +kernel) (by decide +kernel)
set_option maxRecDepth 20000 in
theorem gX1_guess_X0_spread : GoodIn wsX1_guess (wsV RX1 81 RX0 yX0_spread wsX0_spread) := goodIn_app (goodIn_of _ (by decide +kernel)) ggX1_guess_X0_spread
theorem dX1_guess_0 : decode cX1_guess 0 = .ok (.aload_n 0, 1) := by decide +kernel
theorem dX1_guess_1 : decode cX1_guess 1 = .ok (.iload_n 1, 1) := by decide +kernel
theorem dX1_guess_2 : decode cX1_guess 2 = .ok (.invokevirtual 16, 3) := by decide +kernel
theorem dX1_guess_5 : decode cX1_guess 5 = .ok (.astore 4, 2) := by decide +kernel
theorem dX1_guess_7 : decode cX1_guess 7 = .ok (.aload 4, 2) := by decide +kernel
theorem dX1_guess_9 : decode cX1_guess 9 = .ok (.ifnull 11, 3) := by decide +kernel
theorem dX1_guess_12 : decode cX1_guess 12 = .ok (.iload_n 2, 1) := by decide +kernel
theorem dX1_guess_13 : decode cX1_guess 13 = .ok (.iload_n 3, 1) := by decide +kernel
theorem dX1_guess_14 : decode cX1_guess 14 = .ok (.invokestatic 35, 3) := by decide +kernel
theorem dX1_guess_17 : decode cX1_guess 17 = .ok (.ifCond .ne 5, 3) := by decide +kernel
theorem dX1_guess_20 : decode cX1_guess 20 = .ok (.iconst (-1), 1) := by decide +kernel
theorem dX1_guess_21 : decode cX1_guess 21 = .ok (.ireturn, 1) := by decide +kernel
theorem dX1_guess_22 : decode cX1_guess 22 = .ok (.aload 4, 2) := by decide +kernel
theorem dX1_guess_24 : decode cX1_guess 24 = .ok (.invokevirtual 81, 3) := by decide +kernel
theorem dX1_guess_27 : decode cX1_guess 27 = .ok (.aload 4, 2) := by decide +kernel
theorem dX1_guess_29 : decode cX1_guess 29 = .ok (.getfield 84, 3) := by decide +kernel
theorem dX1_guess_32 : decode cX1_guess 32 = .ok (.iload_n 3, 1) := by decide +kernel
theorem dX1_guess_33 : decode cX1_guess 33 = .ok (.iaload, 1) := by decide +kernel
theorem dX1_guess_34 : decode cX1_guess 34 = .ok (.aload 4, 2) := by decide +kernel
theorem dX1_guess_36 : decode cX1_guess 36 = .ok (.getfield 84, 3) := by decide +kernel
theorem dX1_guess_39 : decode cX1_guess 39 = .ok (.iload_n 2, 1) := by decide +kernel
theorem dX1_guess_40 : decode cX1_guess 40 = .ok (.iaload, 1) := by decide +kernel
theorem dX1_guess_41 : decode cX1_guess 41 = .ok (.isub, 1) := by decide +kernel
theorem dX1_guess_42 : decode cX1_guess 42 = .ok (.ireturn, 1) := by decide +kernel
set_option maxRecDepth 20000 in
theorem ggX1_join_X1_tableAt : GoodIn wsX1_join wsX1_tableAt := goodIn_r _ [6, 7, 71] (by decide +kernel) (by decide +kernel)
set_option maxRecDepth 20000 in
theorem gX1_join_X1_tableAt : GoodIn wsX1_join (wsV RX1 16 RX1 yX1_tableAt wsX1_tableAt) := goodIn_app (goodIn_of _ (by decide +kernel)) ggX1_join_X1_tableAt
set_option maxRecDepth 20000 in
theorem ggX1_join_X1_isSpan : GoodIn wsX1_join wsX1_isSpan := goodIn_r _ [10] (by decide +kernel) (by decide +kernel)
set_option maxRecDepth 20000 in
theorem gX1_join_X1_isSpan : GoodIn wsX1_join (va_wsS RX1 35 yX1_isSpan wsX1_isSpan) := goodIn_app (goodIn_of _ (by decide +kernel)) ggX1_join_X1_isSpan
set_option maxRecDepth 20000 in
theorem ggX1_join_X0_spread : GoodIn wsX1_join wsX0_spread := goodIn_r _ [15, 16, 17, 18, 19, 20, 21, 22, 23, 24, 25, 26, 27, 28, 29, 30, 31, 32, 33, 34, 14, 35, 36, 37, 38, 39, 40, 41, 42, 43, 44, 45, 46, 47, 48, 49, 50, 51, 52, 53, 54, 55, 56, 57, 58, 59, 60, 61, 62, 63, 64, 65, 72, 73, 74, 75, 76, 77, 78, 79, 80, 81, 82, 83, 84, 85] (by decide +kernel) (by decide +kernel)
set_option maxRecDepth 20000 in
theorem gX1_join_X0_spread : GoodIn wsX1_join (wsV RX1 81 RX0 yX0_spread wsX0_spread) := goodIn_app (goodIn_of _ (by decide +kernel)) ggX1_join_X0_spread
set_option maxRecDepth 20000 in
theorem ggX1_join_X0_rowsOf : GoodIn wsX1_join wsX0_rowsOf := goodIn_r _ [69, 70, 18, 72, 73, 74, 75, 76, 77, 78, 79, 80, 81, 82, 83, 84, 85] (by decide +kernel) (by decide +kernel)
set_option maxRecDepth 20000 in
theorem gX1_join_X0_rowsOf : GoodIn wsX1_join (wsV RX1 89 RX0 yX0_rowsOf wsX0_rowsOf) := goodIn_app (goodIn_of _ (by decide +kernel)) ggX1_join_X0_rowsOf
theorem dX1_join_0 : decode cX1_join 0 = .ok (.aload_n 0, 1) := by decide +kernel
theorem dX1_join_1 : decode cX1_join 1 = .ok (.iload_n 1, 1) := by decide +kernel
theorem dX1_join_2 : decode cX1_join 2 = .ok (.invokevirtual 16, 3) := by decide +kernel
theorem dX1_join_5 : decode cX1_join 5 = .ok (.astore 5, 2) := by decide +kernel
theorem dX1_join_7 : decode cX1_join 7 = .ok (.aload_n 0, 1) := by decide +kernel
theorem dX1_join_8 : decode cX1_join 8 = .ok (.iload_n 2, 1) := by decide +kernel
theorem dX1_join_9 : decode cX1_join 9 = .ok (.invokevirtual 16, 3) := by decide +kernel
theorem dX1_join_12 : decode cX1_join 12 = .ok (.astore 6, 2) := by decide +kernel
theorem dX1_join_14 : decode cX1_join 14 = .ok (.aload 5, 2) := by decide +kernel
theorem dX1_join_16 : decode cX1_join 16 = .ok (.ifnull 17, 3) := by decide +kernel
theorem dX1_join_19 : decode cX1_join 19 = .ok (.aload 6, 2) := by decide +kernel
theorem dX1_join_21 : decode cX1_join 21 = .ok (.ifnull 12, 3) := by decide +kernel
theorem dX1_join_24 : decode cX1_join 24 = .ok (.iload_n 3, 1) := by decide +kernel
theorem dX1_join_25 : decode cX1_join 25 = .ok (.iload 4, 2) := by decide +kernel
theorem dX1_join_27 : decode cX1_join 27 = .ok (.invokestatic 35, 3) := by decide +kernel
theorem dX1_join_30 : decode cX1_join 30 = .ok (.ifCond .ne 7, 3) := by decide +kernel
theorem dX1_join_33 : decode cX1_join 33 = .ok (.ldc2_w 87, 3) := by decide +kernel
theorem dX1_join_36 : decode cX1_join 36 = .ok (.lreturn, 1) := by decide +kernel
theorem dX1_join_37 : decode cX1_join 37 = .ok (.aload 5, 2) := by decide +kernel
theorem dX1_join_39 : decode cX1_join 39 = .ok (.invokevirtual 81, 3) := by decide +kernel
theorem dX1_join_42 : decode cX1_join 42 = .ok (.aload 6, 2) := by decide +kernel
theorem dX1_join_44 : decode cX1_join 44 = .ok (.invokevirtual 81, 3) := by decide +kernel
theorem dX1_join_47 : decode cX1_join 47 = .ok (.lconst 0, 1) := by decide +kernel
theorem dX1_join_48 : decode cX1_join 48 = .ok (.lstore 7, 2) := by decide +kernel
theorem dX1_join_50 : decode cX1_join 50 = .ok (.iload_n 3, 1) := by decide +kernel
theorem dX1_join_51 : decode cX1_join 51 = .ok (.istore 9, 2) := by decide +kernel
theorem dX1_join_53 : decode cX1_join 53 = .ok (.iload 9, 2) := by decide +kernel
theorem dX1_join_55 : decode cX1_join 55 = .ok (.iload 4, 2) := by decide +kernel
theorem dX1_join_57 : decode cX1_join 57 = .ok (.if_icmp .ge 31, 3) := by decide +kernel
theorem dX1_join_60 : decode cX1_join 60 = .ok (.lload 7, 2) := by decide +kernel
theorem dX1_join_62 : decode cX1_join 62 = .ok (.aload 5, 2) := by decide +kernel
theorem dX1_join_64 : decode cX1_join 64 = .ok (.iload 9, 2) := by decide +kernel
theorem dX1_join_66 : decode cX1_join 66 = .ok (.iconst 0, 1) := by decide +kernel
theorem dX1_join_67 : decode cX1_join 67 = .ok (.invokevirtual 89, 3) := by decide +kernel
theorem dX1_join_70 : decode cX1_join 70 = .ok (.aload 6, 2) := by decide +kernel
theorem dX1_join_72 : decode cX1_join 72 = .ok (.iload 9, 2) := by decide +kernel
theorem dX1_join_74 : decode cX1_join 74 = .ok (.iconst 0, 1) := by decide +kernel
theorem dX1_join_75 : decode cX1_join 75 = .ok (.invokevirtual 89, 3) := by decide +kernel
theorem dX1_join_78 : decode cX1_join 78 = .ok (.lmul, 1) := by decide +kernel
theorem dX1_join_79 : decode cX1_join 79 = .ok (.ladd, 1) := by decide +kernel
theorem dX1_join_80 : decode cX1_join 80 = .ok (.lstore 7, 2) := by decide +kernel
theorem dX1_join_82 : decode cX1_join 82 = .ok (.iinc 9 1, 3) := by decide +kernel
theorem dX1_join_85 : decode cX1_join 85 = .ok (.goto (-32), 3) := by decide +kernel
theorem dX1_join_88 : decode cX1_join 88 = .ok (.lload 7, 2) := by decide +kernel
theorem dX1_join_90 : decode cX1_join 90 = .ok (.lreturn, 1) := by decide +kernel
set_option maxRecDepth 20000 in
theorem ggX1_truth_X1_tableAt : GoodIn wsX1_truth wsX1_tableAt := goodIn_r _ [7, 8, 23] (by decide +kernel) (by decide +kernel)
set_option maxRecDepth 20000 in
theorem gX1_truth_X1_tableAt : GoodIn wsX1_truth (wsV RX1 16 RX1 yX1_tableAt wsX1_tableAt) := goodIn_app (goodIn_of _ (by decide +kernel)) ggX1_truth_X1_tableAt
theorem dX1_truth_0 : decode cX1_truth 0 = .ok (.aload_n 0, 1) := by decide +kernel
theorem dX1_truth_1 : decode cX1_truth 1 = .ok (.iload_n 1, 1) := by decide +kernel
theorem dX1_truth_2 : decode cX1_truth 2 = .ok (.invokevirtual 16, 3) := by decide +kernel
theorem dX1_truth_5 : decode cX1_truth 5 = .ok (.astore 4, 2) := by decide +kernel
theorem dX1_truth_7 : decode cX1_truth 7 = .ok (.aload 4, 2) := by decide +kernel
theorem dX1_truth_9 : decode cX1_truth 9 = .ok (.ifnull 23, 3) := by decide +kernel
theorem dX1_truth_12 : decode cX1_truth 12 = .ok (.iload_n 2, 1) := by decide +kernel
theorem dX1_truth_13 : decode cX1_truth 13 = .ok (.ifCond .lt 19, 3) := by decide +kernel
theorem dX1_truth_16 : decode cX1_truth 16 = .ok (.iload_n 2, 1) := by decide +kernel
theorem dX1_truth_17 : decode cX1_truth 17 = .ok (.bipush 64, 2) := by decide +kernel
theorem dX1_truth_19 : decode cX1_truth 19 = .ok (.if_icmp .ge 13, 3) := by decide +kernel
theorem dX1_truth_22 : decode cX1_truth 22 = .ok (.iload_n 3, 1) := by decide +kernel
theorem dX1_truth_23 : decode cX1_truth 23 = .ok (.ifCond .lt 9, 3) := by decide +kernel
theorem dX1_truth_26 : decode cX1_truth 26 = .ok (.iload_n 3, 1) := by decide +kernel
theorem dX1_truth_27 : decode cX1_truth 27 = .ok (.ldc 93, 2) := by decide +kernel
theorem dX1_truth_29 : decode cX1_truth 29 = .ok (.if_icmp .le 5, 3) := by decide +kernel
theorem dX1_truth_32 : decode cX1_truth 32 = .ok (.iconst 0, 1) := by decide +kernel
theorem dX1_truth_33 : decode cX1_truth 33 = .ok (.ireturn, 1) := by decide +kernel
theorem dX1_truth_34 : decode cX1_truth 34 = .ok (.aload 4, 2) := by decide +kernel
theorem dX1_truth_36 : decode cX1_truth 36 = .ok (.getfield 94, 3) := by decide +kernel
theorem dX1_truth_39 : decode cX1_truth 39 = .ok (.iload_n 2, 1) := by decide +kernel
theorem dX1_truth_40 : decode cX1_truth 40 = .ok (.iload_n 3, 1) := by decide +kernel
theorem dX1_truth_41 : decode cX1_truth 41 = .ok (.iastore, 1) := by decide +kernel
theorem dX1_truth_42 : decode cX1_truth 42 = .ok (.iconst 1, 1) := by decide +kernel
theorem dX1_truth_43 : decode cX1_truth 43 = .ok (.ireturn, 1) := by decide +kernel
set_option maxRecDepth 20000 in
theorem ggX1_agrees_X1_tableAt : GoodIn wsX1_agrees wsX1_tableAt := goodIn_r _ [5, 6, 51] (by decide +kernel) (by decide +kernel)
set_option maxRecDepth 20000 in
theorem gX1_agrees_X1_tableAt : GoodIn wsX1_agrees (wsV RX1 16 RX1 yX1_tableAt wsX1_tableAt) := goodIn_app (goodIn_of _ (by decide +kernel)) ggX1_agrees_X1_tableAt
set_option maxRecDepth 20000 in
theorem ggX1_agrees_X0_trulyAgrees : GoodIn wsX1_agrees wsX0_trulyAgrees := goodIn_r _ [11, 12, 13, 14, 15, 16, 17, 18, 19, 20, 21, 22, 23, 10, 24, 25, 26, 27, 28, 29, 30, 31, 32, 33, 34, 35, 36, 37, 38, 39, 40, 41, 42, 43, 44, 45, 46, 47, 48, 49, 50, 52, 53, 54, 55, 56, 57, 58, 59, 60, 61, 62, 63, 64, 65] (by decide +kernel) (by decide +kernel)
set_option maxRecDepth 20000 in
theorem gX1_agrees_X0_trulyAgrees : GoodIn wsX1_agrees (wsV RX1 97 RX0 yX0_trulyAgrees wsX0_trulyAgrees) := goodIn_app (goodIn_of _ (by decide +kernel)) ggX1_agrees_X0_trulyAgrees
theorem dX1_agrees_0 : decode cX1_agrees 0 = .ok (.aload_n 0, 1) := by decide +kernel
theorem dX1_agrees_1 : decode cX1_agrees 1 = .ok (.iload_n 1, 1) := by decide +kernel
theorem dX1_agrees_2 : decode cX1_agrees 2 = .ok (.invokevirtual 16, 3) := by decide +kernel
theorem dX1_agrees_5 : decode cX1_agrees 5 = .ok (.astore_n 2, 1) := by decide +kernel
theorem dX1_agrees_6 : decode cX1_agrees 6 = .ok (.aload_n 2, 1) := by decide +kernel
theorem dX1_agrees_7 : decode cX1_agrees 7 = .ok (.ifnonnull 5, 3) := by decide +kernel
theorem dX1_agrees_10 : decode cX1_agrees 10 = .ok (.iconst (-1), 1) := by decide +kernel
theorem dX1_agrees_11 : decode cX1_agrees 11 = .ok (.ireturn, 1) := by decide +kernel
theorem dX1_agrees_12 : decode cX1_agrees 12 = .ok (.aload_n 2, 1) := by decide +kernel
theorem dX1_agrees_13 : decode cX1_agrees 13 = .ok (.invokevirtual 97, 3) := by decide +kernel
theorem dX1_agrees_16 : decode cX1_agrees 16 = .ok (.ifCond .eq 7, 3) := by decide +kernel
theorem dX1_agrees_19 : decode cX1_agrees 19 = .ok (.iconst 1, 1) := by decide +kernel
theorem dX1_agrees_20 : decode cX1_agrees 20 = .ok (.goto 4, 3) := by decide +kernel
theorem dX1_agrees_23 : decode cX1_agrees 23 = .ok (.iconst 0, 1) := by decide +kernel
theorem dX1_agrees_24 : decode cX1_agrees 24 = .ok (.ireturn, 1) := by decide +kernel
set_option maxRecDepth 20000 in
theorem ggX1_cost_X1_spreadAll : GoodIn wsX1_cost wsX1_spreadAll := goodIn_r _ [6, 7, 8, 9, 10, 11, 12, 13, 14, 15, 16, 17, 18, 19, 20, 21, 22, 23, 24, 25, 26, 27, 28, 29, 30, 31, 32, 33, 34, 35, 36, 37, 38, 39, 40, 41, 42, 43, 44, 45, 46, 47, 48, 49, 50, 51, 52, 53, 54, 55, 56, 57, 58, 59, 60, 61, 62, 73, 74, 75, 76, 77, 78, 79, 80, 81, 82, 83, 84, 85, 86, 87] (by decide +kernel) (by decide +kernel)
set_option maxRecDepth 20000 in
theorem gX1_cost_X1_spreadAll : GoodIn wsX1_cost (wsV RX1 101 RX1 yX1_spreadAll wsX1_spreadAll) := goodIn_app (goodIn_of _ (by decide +kernel)) ggX1_cost_X1_spreadAll
set_option maxRecDepth 20000 in
theorem ggX1_cost_X1_costOf : GoodIn wsX1_cost wsX1_costOf := goodIn_r _ [66, 7, 67, 68, 69, 70, 11, 71, 72, 15, 73, 74, 75, 76, 77, 78, 79, 80, 81, 82, 83, 84, 85, 86, 87] (by decide +kernel) (by decide +kernel)
set_option maxRecDepth 20000 in
theorem gX1_cost_X1_costOf : GoodIn wsX1_cost (wsV RX1 104 RX1 yX1_costOf wsX1_costOf) := goodIn_app (goodIn_of _ (by decide +kernel)) ggX1_cost_X1_costOf
theorem dX1_cost_0 : decode cX1_cost 0 = .ok (.iload_n 1, 1) := by decide +kernel
theorem dX1_cost_1 : decode cX1_cost 1 = .ok (.ifCond .lt 9, 3) := by decide +kernel
theorem dX1_cost_4 : decode cX1_cost 4 = .ok (.iload_n 1, 1) := by decide +kernel
theorem dX1_cost_5 : decode cX1_cost 5 = .ok (.bipush 6, 2) := by decide +kernel
theorem dX1_cost_7 : decode cX1_cost 7 = .ok (.if_icmp .lt 7, 3) := by decide +kernel
theorem dX1_cost_10 : decode cX1_cost 10 = .ok (.ldc2_w 87, 3) := by decide +kernel
theorem dX1_cost_13 : decode cX1_cost 13 = .ok (.lreturn, 1) := by decide +kernel
theorem dX1_cost_14 : decode cX1_cost 14 = .ok (.aload_n 0, 1) := by decide +kernel
theorem dX1_cost_15 : decode cX1_cost 15 = .ok (.invokevirtual 101, 3) := by decide +kernel
theorem dX1_cost_18 : decode cX1_cost 18 = .ok (.aload_n 0, 1) := by decide +kernel
theorem dX1_cost_19 : decode cX1_cost 19 = .ok (.iload_n 1, 1) := by decide +kernel
theorem dX1_cost_20 : decode cX1_cost 20 = .ok (.iload_n 2, 1) := by decide +kernel
theorem dX1_cost_21 : decode cX1_cost 21 = .ok (.invokevirtual 104, 3) := by decide +kernel
theorem dX1_cost_24 : decode cX1_cost 24 = .ok (.lreturn, 1) := by decide +kernel
set_option maxRecDepth 20000 in
theorem ggX1_plan_X1_spreadAll : GoodIn wsX1_plan wsX1_spreadAll := goodIn_r _ [5, 6, 7, 8, 9, 10, 11, 12, 13, 14, 15, 16, 17, 18, 19, 20, 21, 22, 23, 24, 25, 26, 27, 28, 29, 30, 31, 32, 33, 34, 35, 36, 37, 38, 39, 40, 41, 42, 43, 44, 45, 46, 47, 48, 49, 50, 51, 52, 53, 54, 55, 56, 57, 58, 59, 60, 61, 76, 77, 78, 79, 80, 81, 82, 83, 84, 85, 86, 87, 88, 89, 90] (by decide +kernel) (by decide +kernel)
set_option maxRecDepth 20000 in
theorem gX1_plan_X1_spreadAll : GoodIn wsX1_plan (wsV RX1 101 RX1 yX1_spreadAll wsX1_spreadAll) := goodIn_app (goodIn_of _ (by decide +kernel)) ggX1_plan_X1_spreadAll
set_option maxRecDepth 20000 in
theorem ggX1_plan_X1_cheapest : GoodIn wsX1_plan wsX1_cheapest := goodIn_r _ [65, 66, 67, 68, 4, 69, 6, 70, 71, 72, 73, 10, 74, 75, 14, 76, 77, 78, 79, 80, 81, 82, 83, 84, 85, 86, 87, 88, 89, 90] (by decide +kernel) (by decide +kernel)
set_option maxRecDepth 20000 in
theorem gX1_plan_X1_cheapest : GoodIn wsX1_plan (wsV RX1 107 RX1 yX1_cheapest wsX1_cheapest) := goodIn_app (goodIn_of _ (by decide +kernel)) ggX1_plan_X1_cheapest
theorem dX1_plan_0 : decode cX1_plan 0 = .ok (.aload_n 0, 1) := by decide +kernel
theorem dX1_plan_1 : decode cX1_plan 1 = .ok (.invokevirtual 101, 3) := by decide +kernel
theorem dX1_plan_4 : decode cX1_plan 4 = .ok (.aload_n 0, 1) := by decide +kernel
theorem dX1_plan_5 : decode cX1_plan 5 = .ok (.iload_n 1, 1) := by decide +kernel
theorem dX1_plan_6 : decode cX1_plan 6 = .ok (.invokevirtual 107, 3) := by decide +kernel
theorem dX1_plan_9 : decode cX1_plan 9 = .ok (.ireturn, 1) := by decide +kernel
set_option maxRecDepth 20000 in
theorem ggX1_lost_X1_spreadAll : GoodIn wsX1_lost wsX1_spreadAll := goodIn_r _ [5, 6, 7, 8, 9, 10, 11, 12, 13, 14, 15, 16, 17, 18, 19, 20, 21, 22, 23, 24, 25, 26, 27, 28, 29, 30, 31, 32, 33, 34, 35, 36, 37, 38, 39, 40, 41, 42, 43, 44, 45, 46, 47, 48, 49, 50, 51, 52, 53, 54, 55, 56, 57, 58, 59, 60, 61, 76, 77, 78, 79, 80, 81, 82, 83, 84, 85, 86, 87, 88, 89, 90] (by decide +kernel) (by decide +kernel)
set_option maxRecDepth 20000 in
theorem gX1_lost_X1_spreadAll : GoodIn wsX1_lost (wsV RX1 101 RX1 yX1_spreadAll wsX1_spreadAll) := goodIn_app (goodIn_of _ (by decide +kernel)) ggX1_lost_X1_spreadAll
set_option maxRecDepth 20000 in
theorem ggX1_lost_X1_cheapest : GoodIn wsX1_lost wsX1_cheapest := goodIn_r _ [65, 66, 67, 68, 4, 69, 6, 70, 71, 72, 73, 10, 74, 75, 14, 76, 77, 78, 79, 80, 81, 82, 83, 84, 85, 86, 87, 88, 89, 90] (by decide +kernel) (by decide +kernel)
set_option maxRecDepth 20000 in
theorem gX1_lost_X1_cheapest : GoodIn wsX1_lost (wsV RX1 107 RX1 yX1_cheapest wsX1_cheapest) := goodIn_app (goodIn_of _ (by decide +kernel)) ggX1_lost_X1_cheapest
set_option maxRecDepth 20000 in
theorem ggX1_lost_X1_costOf : GoodIn wsX1_lost wsX1_costOf := goodIn_r _ [69, 6, 70, 71, 72, 73, 10, 74, 75, 14, 76, 77, 78, 79, 80, 81, 82, 83, 84, 85, 86, 87, 88, 89, 90] (by decide +kernel) (by decide +kernel)
set_option maxRecDepth 20000 in
theorem gX1_lost_X1_costOf : GoodIn wsX1_lost (wsV RX1 104 RX1 yX1_costOf wsX1_costOf) := goodIn_app (goodIn_of _ (by decide +kernel)) ggX1_lost_X1_costOf
theorem dX1_lost_0 : decode cX1_lost 0 = .ok (.aload_n 0, 1) := by decide +kernel
theorem dX1_lost_1 : decode cX1_lost 1 = .ok (.invokevirtual 101, 3) := by decide +kernel
theorem dX1_lost_4 : decode cX1_lost 4 = .ok (.aload_n 0, 1) := by decide +kernel
theorem dX1_lost_5 : decode cX1_lost 5 = .ok (.aload_n 0, 1) := by decide +kernel
theorem dX1_lost_6 : decode cX1_lost 6 = .ok (.iconst 0, 1) := by decide +kernel
theorem dX1_lost_7 : decode cX1_lost 7 = .ok (.invokevirtual 107, 3) := by decide +kernel
theorem dX1_lost_10 : decode cX1_lost 10 = .ok (.iconst 1, 1) := by decide +kernel
theorem dX1_lost_11 : decode cX1_lost 11 = .ok (.invokevirtual 104, 3) := by decide +kernel
theorem dX1_lost_14 : decode cX1_lost 14 = .ok (.aload_n 0, 1) := by decide +kernel
theorem dX1_lost_15 : decode cX1_lost 15 = .ok (.aload_n 0, 1) := by decide +kernel
theorem dX1_lost_16 : decode cX1_lost 16 = .ok (.iconst 1, 1) := by decide +kernel
theorem dX1_lost_17 : decode cX1_lost 17 = .ok (.invokevirtual 107, 3) := by decide +kernel
theorem dX1_lost_20 : decode cX1_lost 20 = .ok (.iconst 1, 1) := by decide +kernel
theorem dX1_lost_21 : decode cX1_lost 21 = .ok (.invokevirtual 104, 3) := by decide +kernel
theorem dX1_lost_24 : decode cX1_lost 24 = .ok (.lsub, 1) := by decide +kernel
theorem dX1_lost_25 : decode cX1_lost 25 = .ok (.lreturn, 1) := by decide +kernel
set_option maxRecDepth 20000 in
theorem ggX1_table_X1_tableAt : GoodIn wsX1_table wsX1_tableAt := goodIn_r _ [8, 9, 67] (by decide +kernel) (by decide +kernel)
set_option maxRecDepth 20000 in
theorem gX1_table_X1_tableAt : GoodIn wsX1_table (wsV RX1 16 RX1 yX1_tableAt wsX1_tableAt) := goodIn_app (goodIn_of _ (by decide +kernel)) ggX1_table_X1_tableAt
set_option maxRecDepth 20000 in
theorem ggX1_table_X0_sightsThatAre : GoodIn wsX1_table wsX0_sightsThatAre := goodIn_r _ [14, 15, 16, 17, 18, 19, 13, 20, 21, 22, 23, 24, 25, 26, 27, 28, 29, 30, 31, 32, 33, 34, 35, 36, 37, 38, 39, 40, 41, 42, 43, 44, 45, 46, 47, 48, 49, 50, 51, 52, 53, 54, 55, 56, 57, 58, 59, 60, 61, 62, 63, 64, 65, 66] (by decide +kernel) (by decide +kernel)
set_option maxRecDepth 20000 in
theorem gX1_table_X0_sightsThatAre : GoodIn wsX1_table (wsV RX1 111 RX0 yX0_sightsThatAre wsX0_sightsThatAre) := goodIn_app (goodIn_of _ (by decide +kernel)) ggX1_table_X0_sightsThatAre
theorem dX1_table_0 : decode cX1_table 0 = .ok (.aload_n 0, 1) := by decide +kernel
theorem dX1_table_1 : decode cX1_table 1 = .ok (.iload_n 1, 1) := by decide +kernel
theorem dX1_table_2 : decode cX1_table 2 = .ok (.invokevirtual 16, 3) := by decide +kernel
theorem dX1_table_5 : decode cX1_table 5 = .ok (.astore_n 3, 1) := by decide +kernel
theorem dX1_table_6 : decode cX1_table 6 = .ok (.aload_n 3, 1) := by decide +kernel
theorem dX1_table_7 : decode cX1_table 7 = .ok (.ifnonnull 5, 3) := by decide +kernel
theorem dX1_table_10 : decode cX1_table 10 = .ok (.iconst (-1), 1) := by decide +kernel
theorem dX1_table_11 : decode cX1_table 11 = .ok (.ireturn, 1) := by decide +kernel
theorem dX1_table_12 : decode cX1_table 12 = .ok (.iload_n 2, 1) := by decide +kernel
theorem dX1_table_13 : decode cX1_table 13 = .ok (.tableswitch 72 0 5 #[39, 44, 49, 55, 61, 67], 39) := by decide +kernel
theorem dX1_table_52 : decode cX1_table 52 = .ok (.aload_n 3, 1) := by decide +kernel
theorem dX1_table_53 : decode cX1_table 53 = .ok (.getfield 25, 3) := by decide +kernel
theorem dX1_table_56 : decode cX1_table 56 = .ok (.ireturn, 1) := by decide +kernel
theorem dX1_table_57 : decode cX1_table 57 = .ok (.aload_n 3, 1) := by decide +kernel
theorem dX1_table_58 : decode cX1_table 58 = .ok (.getfield 55, 3) := by decide +kernel
theorem dX1_table_61 : decode cX1_table 61 = .ok (.ireturn, 1) := by decide +kernel
theorem dX1_table_62 : decode cX1_table 62 = .ok (.aload_n 3, 1) := by decide +kernel
theorem dX1_table_63 : decode cX1_table 63 = .ok (.iconst 0, 1) := by decide +kernel
theorem dX1_table_64 : decode cX1_table 64 = .ok (.invokevirtual 111, 3) := by decide +kernel
theorem dX1_table_67 : decode cX1_table 67 = .ok (.ireturn, 1) := by decide +kernel
theorem dX1_table_68 : decode cX1_table 68 = .ok (.aload_n 3, 1) := by decide +kernel
theorem dX1_table_69 : decode cX1_table 69 = .ok (.iconst 1, 1) := by decide +kernel
theorem dX1_table_70 : decode cX1_table 70 = .ok (.invokevirtual 111, 3) := by decide +kernel
theorem dX1_table_73 : decode cX1_table 73 = .ok (.ireturn, 1) := by decide +kernel
theorem dX1_table_74 : decode cX1_table 74 = .ok (.aload_n 3, 1) := by decide +kernel
theorem dX1_table_75 : decode cX1_table 75 = .ok (.iconst 2, 1) := by decide +kernel
theorem dX1_table_76 : decode cX1_table 76 = .ok (.invokevirtual 111, 3) := by decide +kernel
theorem dX1_table_79 : decode cX1_table 79 = .ok (.ireturn, 1) := by decide +kernel
theorem dX1_table_80 : decode cX1_table 80 = .ok (.aload_n 3, 1) := by decide +kernel
theorem dX1_table_81 : decode cX1_table 81 = .ok (.getfield 114, 3) := by decide +kernel
theorem dX1_table_84 : decode cX1_table 84 = .ok (.ireturn, 1) := by decide +kernel
theorem dX1_table_85 : decode cX1_table 85 = .ok (.iconst (-1), 1) := by decide +kernel
theorem dX1_table_86 : decode cX1_table 86 = .ok (.ireturn, 1) := by decide +kernel
theorem dX1_tableAt_0 : decode cX1_tableAt 0 = .ok (.iload_n 1, 1) := by decide +kernel
theorem dX1_tableAt_1 : decode cX1_tableAt 1 = .ok (.ifCond .lt 17, 3) := by decide +kernel
theorem dX1_tableAt_4 : decode cX1_tableAt 4 = .ok (.iload_n 1, 1) := by decide +kernel
theorem dX1_tableAt_5 : decode cX1_tableAt 5 = .ok (.iconst 3, 1) := by decide +kernel
theorem dX1_tableAt_6 : decode cX1_tableAt 6 = .ok (.if_icmp .ge 12, 3) := by decide +kernel
theorem dX1_tableAt_9 : decode cX1_tableAt 9 = .ok (.aload_n 0, 1) := by decide +kernel
theorem dX1_tableAt_10 : decode cX1_tableAt 10 = .ok (.getfield 11, 3) := by decide +kernel
theorem dX1_tableAt_13 : decode cX1_tableAt 13 = .ok (.iload_n 1, 1) := by decide +kernel
theorem dX1_tableAt_14 : decode cX1_tableAt 14 = .ok (.aaload, 1) := by decide +kernel
theorem dX1_tableAt_15 : decode cX1_tableAt 15 = .ok (.goto 4, 3) := by decide +kernel
theorem dX1_tableAt_18 : decode cX1_tableAt 18 = .ok (.aconst_null, 1) := by decide +kernel
theorem dX1_tableAt_19 : decode cX1_tableAt 19 = .ok (.areturn, 1) := by decide +kernel
theorem dX1_isSpan_0 : decode cX1_isSpan 0 = .ok (.iconst 0, 1) := by decide +kernel
theorem dX1_isSpan_1 : decode cX1_isSpan 1 = .ok (.iload_n 0, 1) := by decide +kernel
theorem dX1_isSpan_2 : decode cX1_isSpan 2 = .ok (.if_icmp .gt 18, 3) := by decide +kernel
theorem dX1_isSpan_5 : decode cX1_isSpan 5 = .ok (.iload_n 0, 1) := by decide +kernel
theorem dX1_isSpan_6 : decode cX1_isSpan 6 = .ok (.iload_n 1, 1) := by decide +kernel
theorem dX1_isSpan_7 : decode cX1_isSpan 7 = .ok (.if_icmp .gt 13, 3) := by decide +kernel
theorem dX1_isSpan_10 : decode cX1_isSpan 10 = .ok (.iload_n 1, 1) := by decide +kernel
theorem dX1_isSpan_11 : decode cX1_isSpan 11 = .ok (.bipush 64, 2) := by decide +kernel
theorem dX1_isSpan_13 : decode cX1_isSpan 13 = .ok (.if_icmp .gt 7, 3) := by decide +kernel
theorem dX1_isSpan_16 : decode cX1_isSpan 16 = .ok (.iconst 1, 1) := by decide +kernel
theorem dX1_isSpan_17 : decode cX1_isSpan 17 = .ok (.goto 4, 3) := by decide +kernel
theorem dX1_isSpan_20 : decode cX1_isSpan 20 = .ok (.iconst 0, 1) := by decide +kernel
theorem dX1_isSpan_21 : decode cX1_isSpan 21 = .ok (.ireturn, 1) := by decide +kernel
theorem dX1_textsOf_0 : decode cX1_textsOf 0 = .ok (.iconst 1, 1) := by decide +kernel
theorem dX1_textsOf_1 : decode cX1_textsOf 1 = .ok (.iconst 2, 1) := by decide +kernel
theorem dX1_textsOf_2 : decode cX1_textsOf 2 = .ok (.iload_n 0, 1) := by decide +kernel
theorem dX1_textsOf_3 : decode cX1_textsOf 3 = .ok (.imul, 1) := by decide +kernel
theorem dX1_textsOf_4 : decode cX1_textsOf 4 = .ok (.ishl, 1) := by decide +kernel
theorem dX1_textsOf_5 : decode cX1_textsOf 5 = .ok (.ireturn, 1) := by decide +kernel
set_option maxRecDepth 20000 in
theorem ggX1_spreadAll_X0_spread : GoodIn wsX1_spreadAll wsX0_spread := goodIn_r _ [6, 7, 8, 9, 10, 11, 12, 13, 14, 15, 16, 17, 18, 19, 20, 21, 22, 23, 24, 25, 5, 26, 27, 28, 29, 30, 31, 32, 33, 34, 35, 36, 37, 38, 39, 40, 41, 42, 43, 44, 45, 46, 47, 48, 49, 50, 51, 52, 53, 54, 55, 56, 58, 59, 60, 61, 62, 63, 64, 65, 66, 67, 68, 69, 70, 71] (by decide +kernel) (by decide +kernel)
set_option maxRecDepth 20000 in
theorem gX1_spreadAll_X0_spread : GoodIn wsX1_spreadAll (wsV RX1 81 RX0 yX0_spread wsX0_spread) := goodIn_app (goodIn_of _ (by decide +kernel)) ggX1_spreadAll_X0_spread
theorem dX1_spreadAll_0 : decode cX1_spreadAll 0 = .ok (.iconst 0, 1) := by decide +kernel
theorem dX1_spreadAll_1 : decode cX1_spreadAll 1 = .ok (.istore_n 1, 1) := by decide +kernel
theorem dX1_spreadAll_2 : decode cX1_spreadAll 2 = .ok (.iload_n 1, 1) := by decide +kernel
theorem dX1_spreadAll_3 : decode cX1_spreadAll 3 = .ok (.iconst 3, 1) := by decide +kernel
theorem dX1_spreadAll_4 : decode cX1_spreadAll 4 = .ok (.if_icmp .ge 18, 3) := by decide +kernel
theorem dX1_spreadAll_7 : decode cX1_spreadAll 7 = .ok (.aload_n 0, 1) := by decide +kernel
theorem dX1_spreadAll_8 : decode cX1_spreadAll 8 = .ok (.getfield 11, 3) := by decide +kernel
theorem dX1_spreadAll_11 : decode cX1_spreadAll 11 = .ok (.iload_n 1, 1) := by decide +kernel
theorem dX1_spreadAll_12 : decode cX1_spreadAll 12 = .ok (.aaload, 1) := by decide +kernel
theorem dX1_spreadAll_13 : decode cX1_spreadAll 13 = .ok (.invokevirtual 81, 3) := by decide +kernel
theorem dX1_spreadAll_16 : decode cX1_spreadAll 16 = .ok (.iinc 1 1, 3) := by decide +kernel
theorem dX1_spreadAll_19 : decode cX1_spreadAll 19 = .ok (.goto (-17), 3) := by decide +kernel
theorem dX1_spreadAll_22 : decode cX1_spreadAll 22 = .ok (.return_, 1) := by decide +kernel
set_option maxRecDepth 20000 in
theorem ggX1_cheapest_X1_costOf : GoodIn wsX1_cheapest wsX1_costOf := goodIn_r _ [5, 6, 7, 8, 9, 10, 11, 12, 13, 14, 15, 16, 17, 18, 19, 20, 21, 22, 23, 24, 25, 26, 27, 28, 29] (by decide +kernel) (by decide +kernel)
set_option maxRecDepth 20000 in
theorem gX1_cheapest_X1_costOf : GoodIn wsX1_cheapest (wsV RX1 104 RX1 yX1_costOf wsX1_costOf) := goodIn_app (goodIn_of _ (by decide +kernel)) ggX1_cheapest_X1_costOf
theorem dX1_cheapest_0 : decode cX1_cheapest 0 = .ok (.iconst 0, 1) := by decide +kernel
theorem dX1_cheapest_1 : decode cX1_cheapest 1 = .ok (.istore_n 2, 1) := by decide +kernel
theorem dX1_cheapest_2 : decode cX1_cheapest 2 = .ok (.aload_n 0, 1) := by decide +kernel
theorem dX1_cheapest_3 : decode cX1_cheapest 3 = .ok (.iconst 0, 1) := by decide +kernel
theorem dX1_cheapest_4 : decode cX1_cheapest 4 = .ok (.iload_n 1, 1) := by decide +kernel
theorem dX1_cheapest_5 : decode cX1_cheapest 5 = .ok (.invokevirtual 104, 3) := by decide +kernel
theorem dX1_cheapest_8 : decode cX1_cheapest 8 = .ok (.lstore_n 3, 1) := by decide +kernel
theorem dX1_cheapest_9 : decode cX1_cheapest 9 = .ok (.iconst 1, 1) := by decide +kernel
theorem dX1_cheapest_10 : decode cX1_cheapest 10 = .ok (.istore 5, 2) := by decide +kernel
theorem dX1_cheapest_12 : decode cX1_cheapest 12 = .ok (.iload 5, 2) := by decide +kernel
theorem dX1_cheapest_14 : decode cX1_cheapest 14 = .ok (.bipush 6, 2) := by decide +kernel
theorem dX1_cheapest_16 : decode cX1_cheapest 16 = .ok (.if_icmp .ge 31, 3) := by decide +kernel
theorem dX1_cheapest_19 : decode cX1_cheapest 19 = .ok (.aload_n 0, 1) := by decide +kernel
theorem dX1_cheapest_20 : decode cX1_cheapest 20 = .ok (.iload 5, 2) := by decide +kernel
theorem dX1_cheapest_22 : decode cX1_cheapest 22 = .ok (.iload_n 1, 1) := by decide +kernel
theorem dX1_cheapest_23 : decode cX1_cheapest 23 = .ok (.invokevirtual 104, 3) := by decide +kernel
theorem dX1_cheapest_26 : decode cX1_cheapest 26 = .ok (.lstore 6, 2) := by decide +kernel
theorem dX1_cheapest_28 : decode cX1_cheapest 28 = .ok (.lload 6, 2) := by decide +kernel
theorem dX1_cheapest_30 : decode cX1_cheapest 30 = .ok (.lload_n 3, 1) := by decide +kernel
theorem dX1_cheapest_31 : decode cX1_cheapest 31 = .ok (.lcmp, 1) := by decide +kernel
theorem dX1_cheapest_32 : decode cX1_cheapest 32 = .ok (.ifCond .ge 9, 3) := by decide +kernel
theorem dX1_cheapest_35 : decode cX1_cheapest 35 = .ok (.iload 5, 2) := by decide +kernel
theorem dX1_cheapest_37 : decode cX1_cheapest 37 = .ok (.istore_n 2, 1) := by decide +kernel
theorem dX1_cheapest_38 : decode cX1_cheapest 38 = .ok (.lload 6, 2) := by decide +kernel
theorem dX1_cheapest_40 : decode cX1_cheapest 40 = .ok (.lstore_n 3, 1) := by decide +kernel
theorem dX1_cheapest_41 : decode cX1_cheapest 41 = .ok (.iinc 5 1, 3) := by decide +kernel
theorem dX1_cheapest_44 : decode cX1_cheapest 44 = .ok (.goto (-32), 3) := by decide +kernel
theorem dX1_cheapest_47 : decode cX1_cheapest 47 = .ok (.iload_n 2, 1) := by decide +kernel
theorem dX1_cheapest_48 : decode cX1_cheapest 48 = .ok (.ireturn, 1) := by decide +kernel
set_option maxRecDepth 20000 in
theorem ggX1_costOf_X0_rowsOf : GoodIn wsX1_costOf wsX0_rowsOf := goodIn_r _ [7, 8, 9, 11, 12, 13, 14, 15, 16, 17, 18, 19, 20, 21, 22, 23, 24] (by decide +kernel) (by decide +kernel)
set_option maxRecDepth 20000 in
theorem gX1_costOf_X0_rowsOf : GoodIn wsX1_costOf (wsV RX1 89 RX0 yX0_rowsOf wsX0_rowsOf) := goodIn_app (goodIn_of _ (by decide +kernel)) ggX1_costOf_X0_rowsOf
theorem dX1_costOf_0 : decode cX1_costOf 0 = .ok (.aload_n 0, 1) := by decide +kernel
theorem dX1_costOf_1 : decode cX1_costOf 1 = .ok (.getfield 11, 3) := by decide +kernel
theorem dX1_costOf_4 : decode cX1_costOf 4 = .ok (.getstatic 117, 3) := by decide +kernel
theorem dX1_costOf_7 : decode cX1_costOf 7 = .ok (.iconst 3, 1) := by decide +kernel
theorem dX1_costOf_8 : decode cX1_costOf 8 = .ok (.iload_n 1, 1) := by decide +kernel
theorem dX1_costOf_9 : decode cX1_costOf 9 = .ok (.imul, 1) := by decide +kernel
theorem dX1_costOf_10 : decode cX1_costOf 10 = .ok (.iaload, 1) := by decide +kernel
theorem dX1_costOf_11 : decode cX1_costOf 11 = .ok (.aaload, 1) := by decide +kernel
theorem dX1_costOf_12 : decode cX1_costOf 12 = .ok (.astore_n 3, 1) := by decide +kernel
theorem dX1_costOf_13 : decode cX1_costOf 13 = .ok (.aload_n 0, 1) := by decide +kernel
theorem dX1_costOf_14 : decode cX1_costOf 14 = .ok (.getfield 11, 3) := by decide +kernel
theorem dX1_costOf_17 : decode cX1_costOf 17 = .ok (.getstatic 117, 3) := by decide +kernel
theorem dX1_costOf_20 : decode cX1_costOf 20 = .ok (.iconst 3, 1) := by decide +kernel
theorem dX1_costOf_21 : decode cX1_costOf 21 = .ok (.iload_n 1, 1) := by decide +kernel
theorem dX1_costOf_22 : decode cX1_costOf 22 = .ok (.imul, 1) := by decide +kernel
theorem dX1_costOf_23 : decode cX1_costOf 23 = .ok (.iconst 1, 1) := by decide +kernel
theorem dX1_costOf_24 : decode cX1_costOf 24 = .ok (.iadd, 1) := by decide +kernel
theorem dX1_costOf_25 : decode cX1_costOf 25 = .ok (.iaload, 1) := by decide +kernel
theorem dX1_costOf_26 : decode cX1_costOf 26 = .ok (.aaload, 1) := by decide +kernel
theorem dX1_costOf_27 : decode cX1_costOf 27 = .ok (.astore 4, 2) := by decide +kernel
theorem dX1_costOf_29 : decode cX1_costOf 29 = .ok (.aload_n 0, 1) := by decide +kernel
theorem dX1_costOf_30 : decode cX1_costOf 30 = .ok (.getfield 11, 3) := by decide +kernel
theorem dX1_costOf_33 : decode cX1_costOf 33 = .ok (.getstatic 117, 3) := by decide +kernel
theorem dX1_costOf_36 : decode cX1_costOf 36 = .ok (.iconst 3, 1) := by decide +kernel
theorem dX1_costOf_37 : decode cX1_costOf 37 = .ok (.iload_n 1, 1) := by decide +kernel
theorem dX1_costOf_38 : decode cX1_costOf 38 = .ok (.imul, 1) := by decide +kernel
theorem dX1_costOf_39 : decode cX1_costOf 39 = .ok (.iconst 2, 1) := by decide +kernel
theorem dX1_costOf_40 : decode cX1_costOf 40 = .ok (.iadd, 1) := by decide +kernel
theorem dX1_costOf_41 : decode cX1_costOf 41 = .ok (.iaload, 1) := by decide +kernel
theorem dX1_costOf_42 : decode cX1_costOf 42 = .ok (.aaload, 1) := by decide +kernel
theorem dX1_costOf_43 : decode cX1_costOf 43 = .ok (.astore 5, 2) := by decide +kernel
theorem dX1_costOf_45 : decode cX1_costOf 45 = .ok (.lconst 0, 1) := by decide +kernel
theorem dX1_costOf_46 : decode cX1_costOf 46 = .ok (.lstore 6, 2) := by decide +kernel
theorem dX1_costOf_48 : decode cX1_costOf 48 = .ok (.iconst 0, 1) := by decide +kernel
theorem dX1_costOf_49 : decode cX1_costOf 49 = .ok (.istore 8, 2) := by decide +kernel
theorem dX1_costOf_51 : decode cX1_costOf 51 = .ok (.iload 8, 2) := by decide +kernel
theorem dX1_costOf_53 : decode cX1_costOf 53 = .ok (.bipush 64, 2) := by decide +kernel
theorem dX1_costOf_55 : decode cX1_costOf 55 = .ok (.if_icmp .ge 46, 3) := by decide +kernel
theorem dX1_costOf_58 : decode cX1_costOf 58 = .ok (.aload_n 3, 1) := by decide +kernel
theorem dX1_costOf_59 : decode cX1_costOf 59 = .ok (.iload 8, 2) := by decide +kernel
theorem dX1_costOf_61 : decode cX1_costOf 61 = .ok (.iload_n 2, 1) := by decide +kernel
theorem dX1_costOf_62 : decode cX1_costOf 62 = .ok (.invokevirtual 89, 3) := by decide +kernel
theorem dX1_costOf_65 : decode cX1_costOf 65 = .ok (.aload 4, 2) := by decide +kernel
theorem dX1_costOf_67 : decode cX1_costOf 67 = .ok (.iload 8, 2) := by decide +kernel
theorem dX1_costOf_69 : decode cX1_costOf 69 = .ok (.iload_n 2, 1) := by decide +kernel
theorem dX1_costOf_70 : decode cX1_costOf 70 = .ok (.invokevirtual 89, 3) := by decide +kernel
theorem dX1_costOf_73 : decode cX1_costOf 73 = .ok (.lmul, 1) := by decide +kernel
theorem dX1_costOf_74 : decode cX1_costOf 74 = .ok (.lstore 9, 2) := by decide +kernel
theorem dX1_costOf_76 : decode cX1_costOf 76 = .ok (.lload 6, 2) := by decide +kernel
theorem dX1_costOf_78 : decode cX1_costOf 78 = .ok (.lload 9, 2) := by decide +kernel
theorem dX1_costOf_80 : decode cX1_costOf 80 = .ok (.lload 9, 2) := by decide +kernel
theorem dX1_costOf_82 : decode cX1_costOf 82 = .ok (.aload 5, 2) := by decide +kernel
theorem dX1_costOf_84 : decode cX1_costOf 84 = .ok (.iload 8, 2) := by decide +kernel
theorem dX1_costOf_86 : decode cX1_costOf 86 = .ok (.iload_n 2, 1) := by decide +kernel
theorem dX1_costOf_87 : decode cX1_costOf 87 = .ok (.invokevirtual 89, 3) := by decide +kernel
theorem dX1_costOf_90 : decode cX1_costOf 90 = .ok (.lmul, 1) := by decide +kernel
theorem dX1_costOf_91 : decode cX1_costOf 91 = .ok (.ladd, 1) := by decide +kernel
theorem dX1_costOf_92 : decode cX1_costOf 92 = .ok (.ladd, 1) := by decide +kernel
theorem dX1_costOf_93 : decode cX1_costOf 93 = .ok (.lstore 6, 2) := by decide +kernel
theorem dX1_costOf_95 : decode cX1_costOf 95 = .ok (.iinc 8 1, 3) := by decide +kernel
theorem dX1_costOf_98 : decode cX1_costOf 98 = .ok (.goto (-47), 3) := by decide +kernel
theorem dX1_costOf_101 : decode cX1_costOf 101 = .ok (.lload 6, 2) := by decide +kernel
theorem dX1_costOf_103 : decode cX1_costOf 103 = .ok (.lreturn, 1) := by decide +kernel
theorem dX2_init_0 : decode cX2_init 0 = .ok (.aload_n 0, 1) := by decide +kernel
theorem dX2_init_1 : decode cX2_init 1 = .ok (.invokespecial 1, 3) := by decide +kernel
theorem dX2_init_4 : decode cX2_init 4 = .ok (.aload_n 0, 1) := by decide +kernel
theorem dX2_init_5 : decode cX2_init 5 = .ok (.iconst 3, 1) := by decide +kernel
theorem dX2_init_6 : decode cX2_init 6 = .ok (.newarray .int, 2) := by decide +kernel
theorem dX2_init_8 : decode cX2_init 8 = .ok (.putfield 7, 3) := by decide +kernel
theorem dX2_init_11 : decode cX2_init 11 = .ok (.aload_n 0, 1) := by decide +kernel
theorem dX2_init_12 : decode cX2_init 12 = .ok (.iconst 3, 1) := by decide +kernel
theorem dX2_init_13 : decode cX2_init 13 = .ok (.newarray .int, 2) := by decide +kernel
theorem dX2_init_15 : decode cX2_init 15 = .ok (.putfield 13, 3) := by decide +kernel
theorem dX2_init_18 : decode cX2_init 18 = .ok (.aload_n 0, 1) := by decide +kernel
theorem dX2_init_19 : decode cX2_init 19 = .ok (.iconst 3, 1) := by decide +kernel
theorem dX2_init_20 : decode cX2_init 20 = .ok (.newarray .int, 2) := by decide +kernel
theorem dX2_init_22 : decode cX2_init 22 = .ok (.putfield 16, 3) := by decide +kernel
theorem dX2_init_25 : decode cX2_init 25 = .ok (.aload_n 0, 1) := by decide +kernel
theorem dX2_init_26 : decode cX2_init 26 = .ok (.bipush 120, 2) := by decide +kernel
theorem dX2_init_28 : decode cX2_init 28 = .ok (.newarray .int, 2) := by decide +kernel
theorem dX2_init_30 : decode cX2_init 30 = .ok (.putfield 19, 3) := by decide +kernel
theorem dX2_init_33 : decode cX2_init 33 = .ok (.aload_n 0, 1) := by decide +kernel
theorem dX2_init_34 : decode cX2_init 34 = .ok (.bipush 120, 2) := by decide +kernel
theorem dX2_init_36 : decode cX2_init 36 = .ok (.newarray .int, 2) := by decide +kernel
theorem dX2_init_38 : decode cX2_init 38 = .ok (.putfield 22, 3) := by decide +kernel
theorem dX2_init_41 : decode cX2_init 41 = .ok (.aload_n 0, 1) := by decide +kernel
theorem dX2_init_42 : decode cX2_init 42 = .ok (.bipush 120, 2) := by decide +kernel
