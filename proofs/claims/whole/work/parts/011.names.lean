theorem dX0_init_0 : decode cX0_init 0 = .ok (.aload_n 0, 1) := by decide +kernel
theorem dX0_init_1 : decode cX0_init 1 = .ok (.invokespecial 3, 3) := by decide +kernel
theorem dX0_init_4 : decode cX0_init 4 = .ok (.aload_n 0, 1) := by decide +kernel
theorem dX0_init_5 : decode cX0_init 5 = .ok (.iconst 0, 1) := by decide +kernel
theorem dX0_init_6 : decode cX0_init 6 = .ok (.putfield 9, 3) := by decide +kernel
theorem dX0_init_9 : decode cX0_init 9 = .ok (.aload_n 0, 1) := by decide +kernel
theorem dX0_init_10 : decode cX0_init 10 = .ok (.iconst 0, 1) := by decide +kernel
theorem dX0_init_11 : decode cX0_init 11 = .ok (.putfield 15, 3) := by decide +kernel
theorem dX0_init_14 : decode cX0_init 14 = .ok (.aload_n 0, 1) := by decide +kernel
theorem dX0_init_15 : decode cX0_init 15 = .ok (.bipush 40, 2) := by decide +kernel
theorem dX0_init_17 : decode cX0_init 17 = .ok (.putfield 18, 3) := by decide +kernel
theorem dX0_init_20 : decode cX0_init 20 = .ok (.aload_n 0, 1) := by decide +kernel
theorem dX0_init_21 : decode cX0_init 21 = .ok (.bipush 40, 2) := by decide +kernel
theorem dX0_init_23 : decode cX0_init 23 = .ok (.newarray .int, 2) := by decide +kernel
theorem dX0_init_25 : decode cX0_init 25 = .ok (.putfield 21, 3) := by decide +kernel
theorem dX0_init_28 : decode cX0_init 28 = .ok (.aload_n 0, 1) := by decide +kernel
theorem dX0_init_29 : decode cX0_init 29 = .ok (.bipush 40, 2) := by decide +kernel
theorem dX0_init_31 : decode cX0_init 31 = .ok (.newarray .int, 2) := by decide +kernel
theorem dX0_init_33 : decode cX0_init 33 = .ok (.putfield 25, 3) := by decide +kernel
theorem dX0_init_36 : decode cX0_init 36 = .ok (.aload_n 0, 1) := by decide +kernel
theorem dX0_init_37 : decode cX0_init 37 = .ok (.bipush 40, 2) := by decide +kernel
theorem dX0_init_39 : decode cX0_init 39 = .ok (.newarray .int, 2) := by decide +kernel
theorem dX0_init_41 : decode cX0_init 41 = .ok (.putfield 28, 3) := by decide +kernel
theorem dX0_init_44 : decode cX0_init 44 = .ok (.aload_n 0, 1) := by decide +kernel
theorem dX0_init_45 : decode cX0_init 45 = .ok (.bipush 40, 2) := by decide +kernel
theorem dX0_init_47 : decode cX0_init 47 = .ok (.newarray .int, 2) := by decide +kernel
theorem dX0_init_49 : decode cX0_init 49 = .ok (.putfield 31, 3) := by decide +kernel
theorem dX0_init_52 : decode cX0_init 52 = .ok (.aload_n 0, 1) := by decide +kernel
theorem dX0_init_53 : decode cX0_init 53 = .ok (.bipush 40, 2) := by decide +kernel
theorem dX0_init_55 : decode cX0_init 55 = .ok (.newarray .int, 2) := by decide +kernel
theorem dX0_init_57 : decode cX0_init 57 = .ok (.putfield 34, 3) := by decide +kernel
theorem dX0_init_60 : decode cX0_init 60 = .ok (.aload_n 0, 1) := by decide +kernel
theorem dX0_init_61 : decode cX0_init 61 = .ok (.bipush 64, 2) := by decide +kernel
theorem dX0_init_63 : decode cX0_init 63 = .ok (.newarray .int, 2) := by decide +kernel
theorem dX0_init_65 : decode cX0_init 65 = .ok (.putfield 37, 3) := by decide +kernel
theorem dX0_init_68 : decode cX0_init 68 = .ok (.aload_n 0, 1) := by decide +kernel
theorem dX0_init_69 : decode cX0_init 69 = .ok (.bipush 65, 2) := by decide +kernel
theorem dX0_init_71 : decode cX0_init 71 = .ok (.newarray .int, 2) := by decide +kernel
theorem dX0_init_73 : decode cX0_init 73 = .ok (.putfield 40, 3) := by decide +kernel
theorem dX0_init_76 : decode cX0_init 76 = .ok (.aload_n 0, 1) := by decide +kernel
theorem dX0_init_77 : decode cX0_init 77 = .ok (.bipush 65, 2) := by decide +kernel
theorem dX0_init_79 : decode cX0_init 79 = .ok (.newarray .int, 2) := by decide +kernel
theorem dX0_init_81 : decode cX0_init 81 = .ok (.putfield 43, 3) := by decide +kernel
theorem dX0_init_84 : decode cX0_init 84 = .ok (.aload_n 0, 1) := by decide +kernel
theorem dX0_init_85 : decode cX0_init 85 = .ok (.bipush 65, 2) := by decide +kernel
theorem dX0_init_87 : decode cX0_init 87 = .ok (.newarray .int, 2) := by decide +kernel
theorem dX0_init_89 : decode cX0_init 89 = .ok (.putfield 46, 3) := by decide +kernel
theorem dX0_init_92 : decode cX0_init 92 = .ok (.aload_n 0, 1) := by decide +kernel
theorem dX0_init_93 : decode cX0_init 93 = .ok (.iconst 0, 1) := by decide +kernel
theorem dX0_init_94 : decode cX0_init 94 = .ok (.putfield 49, 3) := by decide +kernel
theorem dX0_init_97 : decode cX0_init 97 = .ok (.aload_n 0, 1) := by decide +kernel
theorem dX0_init_98 : decode cX0_init 98 = .ok (.iconst 0, 1) := by decide +kernel
theorem dX0_init_99 : decode cX0_init 99 = .ok (.putfield 53, 3) := by decide +kernel
theorem dX0_init_102 : decode cX0_init 102 = .ok (.return_, 1) := by decide +kernel
set_option maxRecDepth 20000 in
theorem ggX0_startAnew_X0_forget : GoodIn wsX0_startAnew wsX0_forget := goodIn_r _ [7, 8, 9, 10, 11, 12, 13, 14, 15, 16, 17, 18, 19, 20, 21, 22, 23] (by decide +kernel) (by decide +kernel)
set_option maxRecDepth 20000 in
theorem gX0_startAnew_X0_forget : GoodIn wsX0_startAnew (wsV RX0 56 RX0 yX0_forget wsX0_forget) := goodIn_app (goodIn_of _ (by decide +kernel)) ggX0_startAnew_X0_forget
theorem dX0_startAnew_0 : decode cX0_startAnew 0 = .ok (.aload_n 0, 1) := by decide +kernel
theorem dX0_startAnew_1 : decode cX0_startAnew 1 = .ok (.iload_n 1, 1) := by decide +kernel
theorem dX0_startAnew_2 : decode cX0_startAnew 2 = .ok (.putfield 9, 3) := by decide +kernel
theorem dX0_startAnew_5 : decode cX0_startAnew 5 = .ok (.aload_n 0, 1) := by decide +kernel
theorem dX0_startAnew_6 : decode cX0_startAnew 6 = .ok (.iconst 0, 1) := by decide +kernel
theorem dX0_startAnew_7 : decode cX0_startAnew 7 = .ok (.putfield 15, 3) := by decide +kernel
theorem dX0_startAnew_10 : decode cX0_startAnew 10 = .ok (.aload_n 0, 1) := by decide +kernel
theorem dX0_startAnew_11 : decode cX0_startAnew 11 = .ok (.invokevirtual 56, 3) := by decide +kernel
theorem dX0_startAnew_14 : decode cX0_startAnew 14 = .ok (.return_, 1) := by decide +kernel
set_option maxRecDepth 20000 in
theorem ggX0_grow_X0_forget : GoodIn wsX0_grow wsX0_forget := goodIn_r _ [14, 15, 16, 17, 18, 19, 20, 21, 22, 23, 24, 25, 26, 27, 28, 29, 30] (by decide +kernel) (by decide +kernel)
set_option maxRecDepth 20000 in
theorem gX0_grow_X0_forget : GoodIn wsX0_grow (wsV RX0 56 RX0 yX0_forget wsX0_forget) := goodIn_app (goodIn_of _ (by decide +kernel)) ggX0_grow_X0_forget
theorem dX0_grow_0 : decode cX0_grow 0 = .ok (.aload_n 0, 1) := by decide +kernel
theorem dX0_grow_1 : decode cX0_grow 1 = .ok (.dup, 1) := by decide +kernel
theorem dX0_grow_2 : decode cX0_grow 2 = .ok (.getfield 9, 3) := by decide +kernel
theorem dX0_grow_5 : decode cX0_grow 5 = .ok (.iload_n 1, 1) := by decide +kernel
theorem dX0_grow_6 : decode cX0_grow 6 = .ok (.iadd, 1) := by decide +kernel
theorem dX0_grow_7 : decode cX0_grow 7 = .ok (.putfield 9, 3) := by decide +kernel
theorem dX0_grow_10 : decode cX0_grow 10 = .ok (.iconst 0, 1) := by decide +kernel
theorem dX0_grow_11 : decode cX0_grow 11 = .ok (.istore_n 2, 1) := by decide +kernel
theorem dX0_grow_12 : decode cX0_grow 12 = .ok (.iload_n 2, 1) := by decide +kernel
theorem dX0_grow_13 : decode cX0_grow 13 = .ok (.aload_n 0, 1) := by decide +kernel
theorem dX0_grow_14 : decode cX0_grow 14 = .ok (.getfield 15, 3) := by decide +kernel
theorem dX0_grow_17 : decode cX0_grow 17 = .ok (.if_icmp .ge 39, 3) := by decide +kernel
theorem dX0_grow_20 : decode cX0_grow 20 = .ok (.aload_n 0, 1) := by decide +kernel
theorem dX0_grow_21 : decode cX0_grow 21 = .ok (.getfield 31, 3) := by decide +kernel
theorem dX0_grow_24 : decode cX0_grow 24 = .ok (.iload_n 2, 1) := by decide +kernel
theorem dX0_grow_25 : decode cX0_grow 25 = .ok (.iaload, 1) := by decide +kernel
theorem dX0_grow_26 : decode cX0_grow 26 = .ok (.ldc 59, 2) := by decide +kernel
theorem dX0_grow_28 : decode cX0_grow 28 = .ok (.if_icmp .eq 22, 3) := by decide +kernel
theorem dX0_grow_31 : decode cX0_grow 31 = .ok (.aload_n 0, 1) := by decide +kernel
theorem dX0_grow_32 : decode cX0_grow 32 = .ok (.getfield 31, 3) := by decide +kernel
theorem dX0_grow_35 : decode cX0_grow 35 = .ok (.iload_n 2, 1) := by decide +kernel
theorem dX0_grow_36 : decode cX0_grow 36 = .ok (.aload_n 0, 1) := by decide +kernel
theorem dX0_grow_37 : decode cX0_grow 37 = .ok (.getfield 31, 3) := by decide +kernel
theorem dX0_grow_40 : decode cX0_grow 40 = .ok (.iload_n 2, 1) := by decide +kernel
theorem dX0_grow_41 : decode cX0_grow 41 = .ok (.iaload, 1) := by decide +kernel
theorem dX0_grow_42 : decode cX0_grow 42 = .ok (.iload_n 1, 1) := by decide +kernel
theorem dX0_grow_43 : decode cX0_grow 43 = .ok (.iadd, 1) := by decide +kernel
theorem dX0_grow_44 : decode cX0_grow 44 = .ok (.ldc 60, 2) := by decide +kernel
theorem dX0_grow_46 : decode cX0_grow 46 = .ok (.invokestatic 61, 3) := by decide +kernel
theorem dX0_grow_49 : decode cX0_grow 49 = .ok (.iastore, 1) := by decide +kernel
theorem dX0_grow_50 : decode cX0_grow 50 = .ok (.iinc 2 1, 3) := by decide +kernel
theorem dX0_grow_53 : decode cX0_grow 53 = .ok (.goto (-41), 3) := by decide +kernel
theorem dX0_grow_56 : decode cX0_grow 56 = .ok (.aload_n 0, 1) := by decide +kernel
theorem dX0_grow_57 : decode cX0_grow 57 = .ok (.invokevirtual 56, 3) := by decide +kernel
theorem dX0_grow_60 : decode cX0_grow 60 = .ok (.return_, 1) := by decide +kernel
set_option maxRecDepth 20000 in
theorem ggX0_shrink_X0_forget : GoodIn wsX0_shrink wsX0_forget := goodIn_r _ [12, 13, 14, 15, 16, 17, 18, 19, 20, 21, 22, 23, 24, 25, 26, 27, 28] (by decide +kernel) (by decide +kernel)
set_option maxRecDepth 20000 in
theorem gX0_shrink_X0_forget : GoodIn wsX0_shrink (wsV RX0 56 RX0 yX0_forget wsX0_forget) := goodIn_app (goodIn_of _ (by decide +kernel)) ggX0_shrink_X0_forget
theorem dX0_shrink_0 : decode cX0_shrink 0 = .ok (.aload_n 0, 1) := by decide +kernel
theorem dX0_shrink_1 : decode cX0_shrink 1 = .ok (.dup, 1) := by decide +kernel
theorem dX0_shrink_2 : decode cX0_shrink 2 = .ok (.getfield 9, 3) := by decide +kernel
theorem dX0_shrink_5 : decode cX0_shrink 5 = .ok (.iload_n 1, 1) := by decide +kernel
theorem dX0_shrink_6 : decode cX0_shrink 6 = .ok (.isub, 1) := by decide +kernel
theorem dX0_shrink_7 : decode cX0_shrink 7 = .ok (.putfield 9, 3) := by decide +kernel
theorem dX0_shrink_10 : decode cX0_shrink 10 = .ok (.iconst 0, 1) := by decide +kernel
theorem dX0_shrink_11 : decode cX0_shrink 11 = .ok (.istore_n 2, 1) := by decide +kernel
theorem dX0_shrink_12 : decode cX0_shrink 12 = .ok (.iload_n 2, 1) := by decide +kernel
theorem dX0_shrink_13 : decode cX0_shrink 13 = .ok (.aload_n 0, 1) := by decide +kernel
theorem dX0_shrink_14 : decode cX0_shrink 14 = .ok (.getfield 15, 3) := by decide +kernel
theorem dX0_shrink_17 : decode cX0_shrink 17 = .ok (.if_icmp .ge 27, 3) := by decide +kernel
theorem dX0_shrink_20 : decode cX0_shrink 20 = .ok (.aload_n 0, 1) := by decide +kernel
theorem dX0_shrink_21 : decode cX0_shrink 21 = .ok (.getfield 28, 3) := by decide +kernel
theorem dX0_shrink_24 : decode cX0_shrink 24 = .ok (.iload_n 2, 1) := by decide +kernel
theorem dX0_shrink_25 : decode cX0_shrink 25 = .ok (.aload_n 0, 1) := by decide +kernel
theorem dX0_shrink_26 : decode cX0_shrink 26 = .ok (.getfield 28, 3) := by decide +kernel
theorem dX0_shrink_29 : decode cX0_shrink 29 = .ok (.iload_n 2, 1) := by decide +kernel
theorem dX0_shrink_30 : decode cX0_shrink 30 = .ok (.iaload, 1) := by decide +kernel
theorem dX0_shrink_31 : decode cX0_shrink 31 = .ok (.iload_n 1, 1) := by decide +kernel
theorem dX0_shrink_32 : decode cX0_shrink 32 = .ok (.isub, 1) := by decide +kernel
theorem dX0_shrink_33 : decode cX0_shrink 33 = .ok (.iconst 0, 1) := by decide +kernel
theorem dX0_shrink_34 : decode cX0_shrink 34 = .ok (.invokestatic 67, 3) := by decide +kernel
theorem dX0_shrink_37 : decode cX0_shrink 37 = .ok (.iastore, 1) := by decide +kernel
theorem dX0_shrink_38 : decode cX0_shrink 38 = .ok (.iinc 2 1, 3) := by decide +kernel
theorem dX0_shrink_41 : decode cX0_shrink 41 = .ok (.goto (-29), 3) := by decide +kernel
theorem dX0_shrink_44 : decode cX0_shrink 44 = .ok (.aload_n 0, 1) := by decide +kernel
theorem dX0_shrink_45 : decode cX0_shrink 45 = .ok (.invokevirtual 56, 3) := by decide +kernel
theorem dX0_shrink_48 : decode cX0_shrink 48 = .ok (.return_, 1) := by decide +kernel
set_option maxRecDepth 20000 in
theorem ggX0_addSight_X0_forget : GoodIn wsX0_addSight wsX0_forget := goodIn_r _ [10, 11, 12, 13, 14, 15, 16, 17, 18, 19, 20, 21, 22, 23, 24, 25, 26] (by decide +kernel) (by decide +kernel)
set_option maxRecDepth 20000 in
theorem gX0_addSight_X0_forget : GoodIn wsX0_addSight (wsV RX0 56 RX0 yX0_forget wsX0_forget) := goodIn_app (goodIn_of _ (by decide +kernel)) ggX0_addSight_X0_forget
theorem dX0_addSight_0 : decode cX0_addSight 0 = .ok (.aload_n 0, 1) := by decide +kernel
theorem dX0_addSight_1 : decode cX0_addSight 1 = .ok (.getfield 15, 3) := by decide +kernel
theorem dX0_addSight_4 : decode cX0_addSight 4 = .ok (.istore 5, 2) := by decide +kernel
theorem dX0_addSight_6 : decode cX0_addSight 6 = .ok (.iload 5, 2) := by decide +kernel
theorem dX0_addSight_8 : decode cX0_addSight 8 = .ok (.bipush 40, 2) := by decide +kernel
theorem dX0_addSight_10 : decode cX0_addSight 10 = .ok (.if_icmp .lt 5, 3) := by decide +kernel
theorem dX0_addSight_13 : decode cX0_addSight 13 = .ok (.iconst (-1), 1) := by decide +kernel
theorem dX0_addSight_14 : decode cX0_addSight 14 = .ok (.ireturn, 1) := by decide +kernel
theorem dX0_addSight_15 : decode cX0_addSight 15 = .ok (.aload_n 0, 1) := by decide +kernel
theorem dX0_addSight_16 : decode cX0_addSight 16 = .ok (.getfield 21, 3) := by decide +kernel
theorem dX0_addSight_19 : decode cX0_addSight 19 = .ok (.iload 5, 2) := by decide +kernel
theorem dX0_addSight_21 : decode cX0_addSight 21 = .ok (.iload_n 1, 1) := by decide +kernel
theorem dX0_addSight_22 : decode cX0_addSight 22 = .ok (.iastore, 1) := by decide +kernel
theorem dX0_addSight_23 : decode cX0_addSight 23 = .ok (.aload_n 0, 1) := by decide +kernel
theorem dX0_addSight_24 : decode cX0_addSight 24 = .ok (.getfield 25, 3) := by decide +kernel
theorem dX0_addSight_27 : decode cX0_addSight 27 = .ok (.iload 5, 2) := by decide +kernel
theorem dX0_addSight_29 : decode cX0_addSight 29 = .ok (.iload_n 2, 1) := by decide +kernel
theorem dX0_addSight_30 : decode cX0_addSight 30 = .ok (.iastore, 1) := by decide +kernel
theorem dX0_addSight_31 : decode cX0_addSight 31 = .ok (.aload_n 0, 1) := by decide +kernel
theorem dX0_addSight_32 : decode cX0_addSight 32 = .ok (.getfield 28, 3) := by decide +kernel
theorem dX0_addSight_35 : decode cX0_addSight 35 = .ok (.iload 5, 2) := by decide +kernel
theorem dX0_addSight_37 : decode cX0_addSight 37 = .ok (.iload_n 3, 1) := by decide +kernel
theorem dX0_addSight_38 : decode cX0_addSight 38 = .ok (.iastore, 1) := by decide +kernel
theorem dX0_addSight_39 : decode cX0_addSight 39 = .ok (.aload_n 0, 1) := by decide +kernel
theorem dX0_addSight_40 : decode cX0_addSight 40 = .ok (.getfield 31, 3) := by decide +kernel
theorem dX0_addSight_43 : decode cX0_addSight 43 = .ok (.iload 5, 2) := by decide +kernel
theorem dX0_addSight_45 : decode cX0_addSight 45 = .ok (.iload 4, 2) := by decide +kernel
theorem dX0_addSight_47 : decode cX0_addSight 47 = .ok (.iastore, 1) := by decide +kernel
theorem dX0_addSight_48 : decode cX0_addSight 48 = .ok (.aload_n 0, 1) := by decide +kernel
theorem dX0_addSight_49 : decode cX0_addSight 49 = .ok (.iload 5, 2) := by decide +kernel
theorem dX0_addSight_51 : decode cX0_addSight 51 = .ok (.iconst 1, 1) := by decide +kernel
theorem dX0_addSight_52 : decode cX0_addSight 52 = .ok (.iadd, 1) := by decide +kernel
theorem dX0_addSight_53 : decode cX0_addSight 53 = .ok (.putfield 15, 3) := by decide +kernel
theorem dX0_addSight_56 : decode cX0_addSight 56 = .ok (.aload_n 0, 1) := by decide +kernel
theorem dX0_addSight_57 : decode cX0_addSight 57 = .ok (.invokevirtual 56, 3) := by decide +kernel
theorem dX0_addSight_60 : decode cX0_addSight 60 = .ok (.iload 5, 2) := by decide +kernel
theorem dX0_addSight_62 : decode cX0_addSight 62 = .ok (.ireturn, 1) := by decide +kernel
set_option maxRecDepth 20000 in
theorem ggX0_makeRoom_X0_forget : GoodIn wsX0_makeRoom wsX0_forget := goodIn_r _ [6, 7, 8, 9, 10, 11, 12, 13, 14, 15, 16, 17, 18, 19, 20, 21, 22] (by decide +kernel) (by decide +kernel)
set_option maxRecDepth 20000 in
theorem gX0_makeRoom_X0_forget : GoodIn wsX0_makeRoom (wsV RX0 56 RX0 yX0_forget wsX0_forget) := goodIn_app (goodIn_of _ (by decide +kernel)) ggX0_makeRoom_X0_forget
theorem dX0_makeRoom_0 : decode cX0_makeRoom 0 = .ok (.aload_n 0, 1) := by decide +kernel
theorem dX0_makeRoom_1 : decode cX0_makeRoom 1 = .ok (.iload_n 1, 1) := by decide +kernel
theorem dX0_makeRoom_2 : decode cX0_makeRoom 2 = .ok (.putfield 18, 3) := by decide +kernel
theorem dX0_makeRoom_5 : decode cX0_makeRoom 5 = .ok (.aload_n 0, 1) := by decide +kernel
theorem dX0_makeRoom_6 : decode cX0_makeRoom 6 = .ok (.invokevirtual 56, 3) := by decide +kernel
theorem dX0_makeRoom_9 : decode cX0_makeRoom 9 = .ok (.return_, 1) := by decide +kernel
set_option maxRecDepth 20000 in
theorem ggX0_sightsThatAre_X0_settle : GoodIn wsX0_sightsThatAre wsX0_settle := goodIn_r _ [7, 8, 2, 9, 10, 1, 11, 12, 13, 14, 15, 16, 17, 18, 19, 20, 21, 22, 6, 23, 24, 25, 26, 27, 28, 29, 30, 31, 32, 33, 34, 35, 36, 37, 38, 39, 40, 41, 42, 43, 44, 45, 46, 47, 48, 49, 50, 51, 52, 53] (by decide +kernel) (by decide +kernel)
set_option maxRecDepth 20000 in
theorem gX0_sightsThatAre_X0_settle : GoodIn wsX0_sightsThatAre (wsV RX0 70 RX0 yX0_settle wsX0_settle) := goodIn_app (goodIn_of _ (by decide +kernel)) ggX0_sightsThatAre_X0_settle
theorem dX0_sightsThatAre_0 : decode cX0_sightsThatAre 0 = .ok (.aload_n 0, 1) := by decide +kernel
theorem dX0_sightsThatAre_1 : decode cX0_sightsThatAre 1 = .ok (.invokevirtual 70, 3) := by decide +kernel
theorem dX0_sightsThatAre_4 : decode cX0_sightsThatAre 4 = .ok (.iconst 0, 1) := by decide +kernel
theorem dX0_sightsThatAre_5 : decode cX0_sightsThatAre 5 = .ok (.istore_n 2, 1) := by decide +kernel
theorem dX0_sightsThatAre_6 : decode cX0_sightsThatAre 6 = .ok (.iconst 0, 1) := by decide +kernel
theorem dX0_sightsThatAre_7 : decode cX0_sightsThatAre 7 = .ok (.istore_n 3, 1) := by decide +kernel
theorem dX0_sightsThatAre_8 : decode cX0_sightsThatAre 8 = .ok (.iload_n 3, 1) := by decide +kernel
theorem dX0_sightsThatAre_9 : decode cX0_sightsThatAre 9 = .ok (.aload_n 0, 1) := by decide +kernel
theorem dX0_sightsThatAre_10 : decode cX0_sightsThatAre 10 = .ok (.getfield 15, 3) := by decide +kernel
theorem dX0_sightsThatAre_13 : decode cX0_sightsThatAre 13 = .ok (.if_icmp .ge 22, 3) := by decide +kernel
theorem dX0_sightsThatAre_16 : decode cX0_sightsThatAre 16 = .ok (.aload_n 0, 1) := by decide +kernel
theorem dX0_sightsThatAre_17 : decode cX0_sightsThatAre 17 = .ok (.getfield 34, 3) := by decide +kernel
theorem dX0_sightsThatAre_20 : decode cX0_sightsThatAre 20 = .ok (.iload_n 3, 1) := by decide +kernel
theorem dX0_sightsThatAre_21 : decode cX0_sightsThatAre 21 = .ok (.iaload, 1) := by decide +kernel
theorem dX0_sightsThatAre_22 : decode cX0_sightsThatAre 22 = .ok (.iload_n 1, 1) := by decide +kernel
theorem dX0_sightsThatAre_23 : decode cX0_sightsThatAre 23 = .ok (.if_icmp .ne 6, 3) := by decide +kernel
theorem dX0_sightsThatAre_26 : decode cX0_sightsThatAre 26 = .ok (.iinc 2 1, 3) := by decide +kernel
theorem dX0_sightsThatAre_29 : decode cX0_sightsThatAre 29 = .ok (.iinc 3 1, 3) := by decide +kernel
theorem dX0_sightsThatAre_32 : decode cX0_sightsThatAre 32 = .ok (.goto (-24), 3) := by decide +kernel
theorem dX0_sightsThatAre_35 : decode cX0_sightsThatAre 35 = .ok (.iload_n 2, 1) := by decide +kernel
theorem dX0_sightsThatAre_36 : decode cX0_sightsThatAre 36 = .ok (.ireturn, 1) := by decide +kernel
theorem dX0_rowsOf_0 : decode cX0_rowsOf 0 = .ok (.iload_n 2, 1) := by decide +kernel
theorem dX0_rowsOf_1 : decode cX0_rowsOf 1 = .ok (.ifCond .eq 13, 3) := by decide +kernel
theorem dX0_rowsOf_4 : decode cX0_rowsOf 4 = .ok (.aload_n 0, 1) := by decide +kernel
theorem dX0_rowsOf_5 : decode cX0_rowsOf 5 = .ok (.getfield 37, 3) := by decide +kernel
theorem dX0_rowsOf_8 : decode cX0_rowsOf 8 = .ok (.iload_n 1, 1) := by decide +kernel
theorem dX0_rowsOf_9 : decode cX0_rowsOf 9 = .ok (.iaload, 1) := by decide +kernel
theorem dX0_rowsOf_10 : decode cX0_rowsOf 10 = .ok (.i2l, 1) := by decide +kernel
theorem dX0_rowsOf_11 : decode cX0_rowsOf 11 = .ok (.goto 19, 3) := by decide +kernel
theorem dX0_rowsOf_14 : decode cX0_rowsOf 14 = .ok (.aload_n 0, 1) := by decide +kernel
theorem dX0_rowsOf_15 : decode cX0_rowsOf 15 = .ok (.getfield 40, 3) := by decide +kernel
theorem dX0_rowsOf_18 : decode cX0_rowsOf 18 = .ok (.iload_n 1, 1) := by decide +kernel
theorem dX0_rowsOf_19 : decode cX0_rowsOf 19 = .ok (.iconst 1, 1) := by decide +kernel
theorem dX0_rowsOf_20 : decode cX0_rowsOf 20 = .ok (.iadd, 1) := by decide +kernel
theorem dX0_rowsOf_21 : decode cX0_rowsOf 21 = .ok (.iaload, 1) := by decide +kernel
theorem dX0_rowsOf_22 : decode cX0_rowsOf 22 = .ok (.aload_n 0, 1) := by decide +kernel
theorem dX0_rowsOf_23 : decode cX0_rowsOf 23 = .ok (.getfield 40, 3) := by decide +kernel
theorem dX0_rowsOf_26 : decode cX0_rowsOf 26 = .ok (.iload_n 1, 1) := by decide +kernel
theorem dX0_rowsOf_27 : decode cX0_rowsOf 27 = .ok (.iaload, 1) := by decide +kernel
theorem dX0_rowsOf_28 : decode cX0_rowsOf 28 = .ok (.isub, 1) := by decide +kernel
theorem dX0_rowsOf_29 : decode cX0_rowsOf 29 = .ok (.i2l, 1) := by decide +kernel
theorem dX0_rowsOf_30 : decode cX0_rowsOf 30 = .ok (.lreturn, 1) := by decide +kernel
set_option maxRecDepth 20000 in
theorem ggX0_trulyAgrees_X0_settle : GoodIn wsX0_trulyAgrees wsX0_settle := goodIn_r _ [14, 15, 7, 16, 3, 4, 17, 18, 19, 20, 21, 22, 23, 24, 25, 26, 27, 28, 13, 29, 6, 5, 8, 9, 1, 30, 31, 32, 33, 34, 35, 36, 37, 38, 39, 40, 41, 42, 43, 44, 45, 46, 47, 48, 49, 50, 51, 52, 53, 54] (by decide +kernel) (by decide +kernel)
set_option maxRecDepth 20000 in
theorem gX0_trulyAgrees_X0_settle : GoodIn wsX0_trulyAgrees (wsV RX0 70 RX0 yX0_settle wsX0_settle) := goodIn_app (goodIn_of _ (by decide +kernel)) ggX0_trulyAgrees_X0_settle
theorem dX0_trulyAgrees_0 : decode cX0_trulyAgrees 0 = .ok (.aload_n 0, 1) := by decide +kernel
theorem dX0_trulyAgrees_1 : decode cX0_trulyAgrees 1 = .ok (.invokevirtual 70, 3) := by decide +kernel
theorem dX0_trulyAgrees_4 : decode cX0_trulyAgrees 4 = .ok (.aload_n 0, 1) := by decide +kernel
theorem dX0_trulyAgrees_5 : decode cX0_trulyAgrees 5 = .ok (.getfield 46, 3) := by decide +kernel
theorem dX0_trulyAgrees_8 : decode cX0_trulyAgrees 8 = .ok (.iconst 0, 1) := by decide +kernel
theorem dX0_trulyAgrees_9 : decode cX0_trulyAgrees 9 = .ok (.iconst 0, 1) := by decide +kernel
theorem dX0_trulyAgrees_10 : decode cX0_trulyAgrees 10 = .ok (.iastore, 1) := by decide +kernel
theorem dX0_trulyAgrees_11 : decode cX0_trulyAgrees 11 = .ok (.iconst 0, 1) := by decide +kernel
theorem dX0_trulyAgrees_12 : decode cX0_trulyAgrees 12 = .ok (.istore_n 1, 1) := by decide +kernel
theorem dX0_trulyAgrees_13 : decode cX0_trulyAgrees 13 = .ok (.iload_n 1, 1) := by decide +kernel
theorem dX0_trulyAgrees_14 : decode cX0_trulyAgrees 14 = .ok (.bipush 64, 2) := by decide +kernel
theorem dX0_trulyAgrees_16 : decode cX0_trulyAgrees 16 = .ok (.if_icmp .ge 30, 3) := by decide +kernel
theorem dX0_trulyAgrees_19 : decode cX0_trulyAgrees 19 = .ok (.aload_n 0, 1) := by decide +kernel
theorem dX0_trulyAgrees_20 : decode cX0_trulyAgrees 20 = .ok (.getfield 46, 3) := by decide +kernel
theorem dX0_trulyAgrees_23 : decode cX0_trulyAgrees 23 = .ok (.iload_n 1, 1) := by decide +kernel
theorem dX0_trulyAgrees_24 : decode cX0_trulyAgrees 24 = .ok (.iconst 1, 1) := by decide +kernel
theorem dX0_trulyAgrees_25 : decode cX0_trulyAgrees 25 = .ok (.iadd, 1) := by decide +kernel
theorem dX0_trulyAgrees_26 : decode cX0_trulyAgrees 26 = .ok (.aload_n 0, 1) := by decide +kernel
theorem dX0_trulyAgrees_27 : decode cX0_trulyAgrees 27 = .ok (.getfield 46, 3) := by decide +kernel
theorem dX0_trulyAgrees_30 : decode cX0_trulyAgrees 30 = .ok (.iload_n 1, 1) := by decide +kernel
theorem dX0_trulyAgrees_31 : decode cX0_trulyAgrees 31 = .ok (.iaload, 1) := by decide +kernel
theorem dX0_trulyAgrees_32 : decode cX0_trulyAgrees 32 = .ok (.aload_n 0, 1) := by decide +kernel
theorem dX0_trulyAgrees_33 : decode cX0_trulyAgrees 33 = .ok (.getfield 37, 3) := by decide +kernel
theorem dX0_trulyAgrees_36 : decode cX0_trulyAgrees 36 = .ok (.iload_n 1, 1) := by decide +kernel
theorem dX0_trulyAgrees_37 : decode cX0_trulyAgrees 37 = .ok (.iaload, 1) := by decide +kernel
theorem dX0_trulyAgrees_38 : decode cX0_trulyAgrees 38 = .ok (.iadd, 1) := by decide +kernel
theorem dX0_trulyAgrees_39 : decode cX0_trulyAgrees 39 = .ok (.iastore, 1) := by decide +kernel
theorem dX0_trulyAgrees_40 : decode cX0_trulyAgrees 40 = .ok (.iinc 1 1, 3) := by decide +kernel
theorem dX0_trulyAgrees_43 : decode cX0_trulyAgrees 43 = .ok (.goto (-30), 3) := by decide +kernel
theorem dX0_trulyAgrees_46 : decode cX0_trulyAgrees 46 = .ok (.aload_n 0, 1) := by decide +kernel
theorem dX0_trulyAgrees_47 : decode cX0_trulyAgrees 47 = .ok (.getfield 46, 3) := by decide +kernel
theorem dX0_trulyAgrees_50 : decode cX0_trulyAgrees 50 = .ok (.bipush 64, 2) := by decide +kernel
theorem dX0_trulyAgrees_52 : decode cX0_trulyAgrees 52 = .ok (.iaload, 1) := by decide +kernel
theorem dX0_trulyAgrees_53 : decode cX0_trulyAgrees 53 = .ok (.aload_n 0, 1) := by decide +kernel
theorem dX0_trulyAgrees_54 : decode cX0_trulyAgrees 54 = .ok (.getfield 9, 3) := by decide +kernel
theorem dX0_trulyAgrees_57 : decode cX0_trulyAgrees 57 = .ok (.if_icmp .eq 5, 3) := by decide +kernel
theorem dX0_trulyAgrees_60 : decode cX0_trulyAgrees 60 = .ok (.iconst 0, 1) := by decide +kernel
theorem dX0_trulyAgrees_61 : decode cX0_trulyAgrees 61 = .ok (.ireturn, 1) := by decide +kernel
theorem dX0_trulyAgrees_62 : decode cX0_trulyAgrees 62 = .ok (.iconst 0, 1) := by decide +kernel
theorem dX0_trulyAgrees_63 : decode cX0_trulyAgrees 63 = .ok (.istore_n 1, 1) := by decide +kernel
theorem dX0_trulyAgrees_64 : decode cX0_trulyAgrees 64 = .ok (.iload_n 1, 1) := by decide +kernel
theorem dX0_trulyAgrees_65 : decode cX0_trulyAgrees 65 = .ok (.aload_n 0, 1) := by decide +kernel
theorem dX0_trulyAgrees_66 : decode cX0_trulyAgrees 66 = .ok (.getfield 15, 3) := by decide +kernel
theorem dX0_trulyAgrees_69 : decode cX0_trulyAgrees 69 = .ok (.if_icmp .ge 64, 3) := by decide +kernel
theorem dX0_trulyAgrees_72 : decode cX0_trulyAgrees 72 = .ok (.aload_n 0, 1) := by decide +kernel
theorem dX0_trulyAgrees_73 : decode cX0_trulyAgrees 73 = .ok (.getfield 46, 3) := by decide +kernel
theorem dX0_trulyAgrees_76 : decode cX0_trulyAgrees 76 = .ok (.aload_n 0, 1) := by decide +kernel
theorem dX0_trulyAgrees_77 : decode cX0_trulyAgrees 77 = .ok (.getfield 25, 3) := by decide +kernel
theorem dX0_trulyAgrees_80 : decode cX0_trulyAgrees 80 = .ok (.iload_n 1, 1) := by decide +kernel
theorem dX0_trulyAgrees_81 : decode cX0_trulyAgrees 81 = .ok (.iaload, 1) := by decide +kernel
theorem dX0_trulyAgrees_82 : decode cX0_trulyAgrees 82 = .ok (.iaload, 1) := by decide +kernel
theorem dX0_trulyAgrees_83 : decode cX0_trulyAgrees 83 = .ok (.aload_n 0, 1) := by decide +kernel
theorem dX0_trulyAgrees_84 : decode cX0_trulyAgrees 84 = .ok (.getfield 46, 3) := by decide +kernel
theorem dX0_trulyAgrees_87 : decode cX0_trulyAgrees 87 = .ok (.aload_n 0, 1) := by decide +kernel
theorem dX0_trulyAgrees_88 : decode cX0_trulyAgrees 88 = .ok (.getfield 21, 3) := by decide +kernel
theorem dX0_trulyAgrees_91 : decode cX0_trulyAgrees 91 = .ok (.iload_n 1, 1) := by decide +kernel
theorem dX0_trulyAgrees_92 : decode cX0_trulyAgrees 92 = .ok (.iaload, 1) := by decide +kernel
theorem dX0_trulyAgrees_93 : decode cX0_trulyAgrees 93 = .ok (.iaload, 1) := by decide +kernel
theorem dX0_trulyAgrees_94 : decode cX0_trulyAgrees 94 = .ok (.isub, 1) := by decide +kernel
theorem dX0_trulyAgrees_95 : decode cX0_trulyAgrees 95 = .ok (.istore_n 2, 1) := by decide +kernel
theorem dX0_trulyAgrees_96 : decode cX0_trulyAgrees 96 = .ok (.aload_n 0, 1) := by decide +kernel
theorem dX0_trulyAgrees_97 : decode cX0_trulyAgrees 97 = .ok (.getfield 34, 3) := by decide +kernel
theorem dX0_trulyAgrees_100 : decode cX0_trulyAgrees 100 = .ok (.iload_n 1, 1) := by decide +kernel
theorem dX0_trulyAgrees_101 : decode cX0_trulyAgrees 101 = .ok (.iaload, 1) := by decide +kernel
theorem dX0_trulyAgrees_102 : decode cX0_trulyAgrees 102 = .ok (.ifCond .ne 25, 3) := by decide +kernel
theorem dX0_trulyAgrees_105 : decode cX0_trulyAgrees 105 = .ok (.iload_n 2, 1) := by decide +kernel
theorem dX0_trulyAgrees_106 : decode cX0_trulyAgrees 106 = .ok (.aload_n 0, 1) := by decide +kernel
theorem dX0_trulyAgrees_107 : decode cX0_trulyAgrees 107 = .ok (.getfield 28, 3) := by decide +kernel
theorem dX0_trulyAgrees_110 : decode cX0_trulyAgrees 110 = .ok (.iload_n 1, 1) := by decide +kernel
theorem dX0_trulyAgrees_111 : decode cX0_trulyAgrees 111 = .ok (.iaload, 1) := by decide +kernel
theorem dX0_trulyAgrees_112 : decode cX0_trulyAgrees 112 = .ok (.if_icmp .lt 13, 3) := by decide +kernel
theorem dX0_trulyAgrees_115 : decode cX0_trulyAgrees 115 = .ok (.iload_n 2, 1) := by decide +kernel
theorem dX0_trulyAgrees_116 : decode cX0_trulyAgrees 116 = .ok (.aload_n 0, 1) := by decide +kernel
theorem dX0_trulyAgrees_117 : decode cX0_trulyAgrees 117 = .ok (.getfield 31, 3) := by decide +kernel
theorem dX0_trulyAgrees_120 : decode cX0_trulyAgrees 120 = .ok (.iload_n 1, 1) := by decide +kernel
theorem dX0_trulyAgrees_121 : decode cX0_trulyAgrees 121 = .ok (.iaload, 1) := by decide +kernel
theorem dX0_trulyAgrees_122 : decode cX0_trulyAgrees 122 = .ok (.if_icmp .le 5, 3) := by decide +kernel
theorem dX0_trulyAgrees_125 : decode cX0_trulyAgrees 125 = .ok (.iconst 0, 1) := by decide +kernel
theorem dX0_trulyAgrees_126 : decode cX0_trulyAgrees 126 = .ok (.ireturn, 1) := by decide +kernel
theorem dX0_trulyAgrees_127 : decode cX0_trulyAgrees 127 = .ok (.iinc 1 1, 3) := by decide +kernel
theorem dX0_trulyAgrees_130 : decode cX0_trulyAgrees 130 = .ok (.goto (-66), 3) := by decide +kernel
theorem dX0_trulyAgrees_133 : decode cX0_trulyAgrees 133 = .ok (.iconst 1, 1) := by decide +kernel
theorem dX0_trulyAgrees_134 : decode cX0_trulyAgrees 134 = .ok (.ireturn, 1) := by decide +kernel
set_option maxRecDepth 20000 in
theorem ggX0_settle_J7_fill_53178 : GoodIn wsX0_settle wsJ7_fill_53178 := goodIn_r _ [14] (by decide +kernel) (by decide +kernel)
set_option maxRecDepth 20000 in
theorem gX0_settle_J7_fill_53178 : GoodIn wsX0_settle (va_wsS RX0 73 yJ7_fill_53178 wsJ7_fill_53178) := goodIn_app (goodIn_of _ (by decide +kernel)) ggX0_settle_J7_fill_53178
set_option maxRecDepth 20000 in
theorem ggX0_settle_X0_fits : GoodIn wsX0_settle wsX0_fits := goodIn_r _ [19, 20, 21, 3, 22, 23, 24, 25, 26, 27, 28, 29, 30, 18, 31, 32, 33, 34, 35, 4, 5, 2, 36, 37, 38, 39, 40, 41, 42, 43, 44, 45, 46, 47, 48, 49] (by decide +kernel) (by decide +kernel)
set_option maxRecDepth 20000 in
theorem gX0_settle_X0_fits : GoodIn wsX0_settle (wsV RX0 79 RX0 yX0_fits wsX0_fits) := goodIn_app (goodIn_of _ (by decide +kernel)) ggX0_settle_X0_fits
theorem dX0_settle_0 : decode cX0_settle 0 = .ok (.aload_n 0, 1) := by decide +kernel
theorem dX0_settle_1 : decode cX0_settle 1 = .ok (.getfield 49, 3) := by decide +kernel
theorem dX0_settle_4 : decode cX0_settle 4 = .ok (.ifCond .eq 4, 3) := by decide +kernel
theorem dX0_settle_7 : decode cX0_settle 7 = .ok (.return_, 1) := by decide +kernel
theorem dX0_settle_8 : decode cX0_settle 8 = .ok (.aload_n 0, 1) := by decide +kernel
theorem dX0_settle_9 : decode cX0_settle 9 = .ok (.getfield 34, 3) := by decide +kernel
theorem dX0_settle_12 : decode cX0_settle 12 = .ok (.iconst 2, 1) := by decide +kernel
theorem dX0_settle_13 : decode cX0_settle 13 = .ok (.invokestatic 73, 3) := by decide +kernel
theorem dX0_settle_16 : decode cX0_settle 16 = .ok (.aload_n 0, 1) := by decide +kernel
theorem dX0_settle_17 : decode cX0_settle 17 = .ok (.getfield 43, 3) := by decide +kernel
theorem dX0_settle_20 : decode cX0_settle 20 = .ok (.iconst 0, 1) := by decide +kernel
theorem dX0_settle_21 : decode cX0_settle 21 = .ok (.invokestatic 73, 3) := by decide +kernel
theorem dX0_settle_24 : decode cX0_settle 24 = .ok (.aload_n 0, 1) := by decide +kernel
theorem dX0_settle_25 : decode cX0_settle 25 = .ok (.getfield 43, 3) := by decide +kernel
theorem dX0_settle_28 : decode cX0_settle 28 = .ok (.bipush 64, 2) := by decide +kernel
theorem dX0_settle_30 : decode cX0_settle 30 = .ok (.aload_n 0, 1) := by decide +kernel
theorem dX0_settle_31 : decode cX0_settle 31 = .ok (.getfield 9, 3) := by decide +kernel
theorem dX0_settle_34 : decode cX0_settle 34 = .ok (.iastore, 1) := by decide +kernel
theorem dX0_settle_35 : decode cX0_settle 35 = .ok (.aload_n 0, 1) := by decide +kernel
theorem dX0_settle_36 : decode cX0_settle 36 = .ok (.getfield 15, 3) := by decide +kernel
theorem dX0_settle_39 : decode cX0_settle 39 = .ok (.aload_n 0, 1) := by decide +kernel
theorem dX0_settle_40 : decode cX0_settle 40 = .ok (.getfield 18, 3) := by decide +kernel
theorem dX0_settle_43 : decode cX0_settle 43 = .ok (.isub, 1) := by decide +kernel
theorem dX0_settle_44 : decode cX0_settle 44 = .ok (.iconst 0, 1) := by decide +kernel
theorem dX0_settle_45 : decode cX0_settle 45 = .ok (.invokestatic 67, 3) := by decide +kernel
theorem dX0_settle_48 : decode cX0_settle 48 = .ok (.istore_n 1, 1) := by decide +kernel
theorem dX0_settle_49 : decode cX0_settle 49 = .ok (.aload_n 0, 1) := by decide +kernel
theorem dX0_settle_50 : decode cX0_settle 50 = .ok (.getfield 15, 3) := by decide +kernel
theorem dX0_settle_53 : decode cX0_settle 53 = .ok (.iconst 1, 1) := by decide +kernel
theorem dX0_settle_54 : decode cX0_settle 54 = .ok (.isub, 1) := by decide +kernel
theorem dX0_settle_55 : decode cX0_settle 55 = .ok (.istore_n 2, 1) := by decide +kernel
theorem dX0_settle_56 : decode cX0_settle 56 = .ok (.iload_n 2, 1) := by decide +kernel
theorem dX0_settle_57 : decode cX0_settle 57 = .ok (.iload_n 1, 1) := by decide +kernel
theorem dX0_settle_58 : decode cX0_settle 58 = .ok (.if_icmp .lt 28, 3) := by decide +kernel
theorem dX0_settle_61 : decode cX0_settle 61 = .ok (.aload_n 0, 1) := by decide +kernel
theorem dX0_settle_62 : decode cX0_settle 62 = .ok (.getfield 34, 3) := by decide +kernel
theorem dX0_settle_65 : decode cX0_settle 65 = .ok (.iload_n 2, 1) := by decide +kernel
theorem dX0_settle_66 : decode cX0_settle 66 = .ok (.aload_n 0, 1) := by decide +kernel
theorem dX0_settle_67 : decode cX0_settle 67 = .ok (.iload_n 2, 1) := by decide +kernel
theorem dX0_settle_68 : decode cX0_settle 68 = .ok (.invokevirtual 79, 3) := by decide +kernel
theorem dX0_settle_71 : decode cX0_settle 71 = .ok (.ifCond .eq 7, 3) := by decide +kernel
theorem dX0_settle_74 : decode cX0_settle 74 = .ok (.iconst 0, 1) := by decide +kernel
theorem dX0_settle_75 : decode cX0_settle 75 = .ok (.goto 4, 3) := by decide +kernel
theorem dX0_settle_78 : decode cX0_settle 78 = .ok (.iconst 1, 1) := by decide +kernel
theorem dX0_settle_79 : decode cX0_settle 79 = .ok (.iastore, 1) := by decide +kernel
theorem dX0_settle_80 : decode cX0_settle 80 = .ok (.iinc 2 (-1), 3) := by decide +kernel
theorem dX0_settle_83 : decode cX0_settle 83 = .ok (.goto (-27), 3) := by decide +kernel
theorem dX0_settle_86 : decode cX0_settle 86 = .ok (.aload_n 0, 1) := by decide +kernel
theorem dX0_settle_87 : decode cX0_settle 87 = .ok (.iconst 1, 1) := by decide +kernel
theorem dX0_settle_88 : decode cX0_settle 88 = .ok (.putfield 49, 3) := by decide +kernel
theorem dX0_settle_91 : decode cX0_settle 91 = .ok (.return_, 1) := by decide +kernel
set_option maxRecDepth 20000 in
theorem ggX0_leastStep_X0_settle : GoodIn wsX0_leastStep wsX0_settle := goodIn_r _ [7, 8, 9, 10, 2, 11, 12, 13, 14, 15, 16, 17, 18, 19, 20, 21, 22, 23, 6, 24, 25, 26, 27, 28, 1, 29, 30, 31, 32, 33, 34, 35, 36, 37, 38, 39, 40, 41, 42, 43, 44, 45, 46, 47, 48, 49, 50, 51, 52, 53] (by decide +kernel) (by decide +kernel)
set_option maxRecDepth 20000 in
theorem gX0_leastStep_X0_settle : GoodIn wsX0_leastStep (wsV RX0 70 RX0 yX0_settle wsX0_settle) := goodIn_app (goodIn_of _ (by decide +kernel)) ggX0_leastStep_X0_settle
set_option maxRecDepth 20000 in
theorem ggX0_leastStep_X0_climb : GoodIn wsX0_leastStep wsX0_climb := goodIn_r _ [39, 2, 11, 9, 26, 25, 27, 28, 33, 34, 6, 35, 40, 41, 42, 43, 44, 45, 46, 47, 48, 49, 50, 51, 52, 53] (by decide +kernel) (by decide +kernel)
set_option maxRecDepth 20000 in
theorem gX0_leastStep_X0_climb : GoodIn wsX0_leastStep (wsV RX0 83 RX0 yX0_climb wsX0_climb) := goodIn_app (goodIn_of _ (by decide +kernel)) ggX0_leastStep_X0_climb
theorem dX0_leastStep_0 : decode cX0_leastStep 0 = .ok (.aload_n 0, 1) := by decide +kernel
theorem dX0_leastStep_1 : decode cX0_leastStep 1 = .ok (.invokevirtual 70, 3) := by decide +kernel
theorem dX0_leastStep_4 : decode cX0_leastStep 4 = .ok (.iconst 0, 1) := by decide +kernel
theorem dX0_leastStep_5 : decode cX0_leastStep 5 = .ok (.istore_n 3, 1) := by decide +kernel
theorem dX0_leastStep_6 : decode cX0_leastStep 6 = .ok (.iload_n 3, 1) := by decide +kernel
theorem dX0_leastStep_7 : decode cX0_leastStep 7 = .ok (.bipush 64, 2) := by decide +kernel
theorem dX0_leastStep_9 : decode cX0_leastStep 9 = .ok (.if_icmp .gt 29, 3) := by decide +kernel
theorem dX0_leastStep_12 : decode cX0_leastStep 12 = .ok (.aload_n 0, 1) := by decide +kernel
theorem dX0_leastStep_13 : decode cX0_leastStep 13 = .ok (.getfield 46, 3) := by decide +kernel
theorem dX0_leastStep_16 : decode cX0_leastStep 16 = .ok (.iload_n 3, 1) := by decide +kernel
theorem dX0_leastStep_17 : decode cX0_leastStep 17 = .ok (.iload_n 3, 1) := by decide +kernel
theorem dX0_leastStep_18 : decode cX0_leastStep 18 = .ok (.iload_n 1, 1) := by decide +kernel
theorem dX0_leastStep_19 : decode cX0_leastStep 19 = .ok (.if_icmp .ge 11, 3) := by decide +kernel
theorem dX0_leastStep_22 : decode cX0_leastStep 22 = .ok (.aload_n 0, 1) := by decide +kernel
theorem dX0_leastStep_23 : decode cX0_leastStep 23 = .ok (.getfield 9, 3) := by decide +kernel
theorem dX0_leastStep_26 : decode cX0_leastStep 26 = .ok (.ineg, 1) := by decide +kernel
theorem dX0_leastStep_27 : decode cX0_leastStep 27 = .ok (.goto 4, 3) := by decide +kernel
theorem dX0_leastStep_30 : decode cX0_leastStep 30 = .ok (.iconst 0, 1) := by decide +kernel
theorem dX0_leastStep_31 : decode cX0_leastStep 31 = .ok (.iastore, 1) := by decide +kernel
theorem dX0_leastStep_32 : decode cX0_leastStep 32 = .ok (.iinc 3 1, 3) := by decide +kernel
theorem dX0_leastStep_35 : decode cX0_leastStep 35 = .ok (.goto (-29), 3) := by decide +kernel
theorem dX0_leastStep_38 : decode cX0_leastStep 38 = .ok (.aload_n 0, 1) := by decide +kernel
theorem dX0_leastStep_39 : decode cX0_leastStep 39 = .ok (.aload_n 0, 1) := by decide +kernel
theorem dX0_leastStep_40 : decode cX0_leastStep 40 = .ok (.getfield 46, 3) := by decide +kernel
theorem dX0_leastStep_43 : decode cX0_leastStep 43 = .ok (.iload_n 1, 1) := by decide +kernel
theorem dX0_leastStep_44 : decode cX0_leastStep 44 = .ok (.iconst 0, 1) := by decide +kernel
theorem dX0_leastStep_45 : decode cX0_leastStep 45 = .ok (.invokevirtual 83, 3) := by decide +kernel
theorem dX0_leastStep_48 : decode cX0_leastStep 48 = .ok (.pop, 1) := by decide +kernel
theorem dX0_leastStep_49 : decode cX0_leastStep 49 = .ok (.aload_n 0, 1) := by decide +kernel
theorem dX0_leastStep_50 : decode cX0_leastStep 50 = .ok (.getfield 46, 3) := by decide +kernel
theorem dX0_leastStep_53 : decode cX0_leastStep 53 = .ok (.iload_n 2, 1) := by decide +kernel
theorem dX0_leastStep_54 : decode cX0_leastStep 54 = .ok (.iaload, 1) := by decide +kernel
theorem dX0_leastStep_55 : decode cX0_leastStep 55 = .ok (.ireturn, 1) := by decide +kernel
set_option maxRecDepth 20000 in
theorem ggX0_spread_X0_settle : GoodIn wsX0_spread wsX0_settle := goodIn_r _ [21, 22, 23, 2, 9, 24, 25, 10, 11, 12, 13, 26, 27, 28, 29, 30, 31, 32, 20, 33, 34, 35, 36, 37, 8, 4, 5, 6, 7, 38, 39, 40, 41, 42, 43, 44, 52, 53, 54, 55, 56, 57, 58, 59, 60, 61, 62, 63, 64, 65] (by decide +kernel) (by decide +kernel)
set_option maxRecDepth 20000 in
theorem gX0_spread_X0_settle : GoodIn wsX0_spread (wsV RX0 70 RX0 yX0_settle wsX0_settle) := goodIn_app (goodIn_of _ (by decide +kernel)) ggX0_spread_X0_settle
set_option maxRecDepth 20000 in
theorem ggX0_spread_J7_fill_53178 : GoodIn wsX0_spread wsJ7_fill_53178 := goodIn_r _ [29] (by decide +kernel) (by decide +kernel)
set_option maxRecDepth 20000 in
theorem gX0_spread_J7_fill_53178 : GoodIn wsX0_spread (va_wsS RX0 73 yJ7_fill_53178 wsJ7_fill_53178) := goodIn_app (goodIn_of _ (by decide +kernel)) ggX0_spread_J7_fill_53178
set_option maxRecDepth 20000 in
theorem ggX0_spread_X0_sink : GoodIn wsX0_spread wsX0_sink := goodIn_r _ [48, 24, 23, 34, 35, 36, 37, 49, 50, 20, 51, 52, 53, 54, 55, 56, 57, 58, 59, 60, 61, 62, 63, 64, 65] (by decide +kernel) (by decide +kernel)
set_option maxRecDepth 20000 in
theorem gX0_spread_X0_sink : GoodIn wsX0_spread (wsV RX0 93 RX0 yX0_sink wsX0_sink) := goodIn_app (goodIn_of _ (by decide +kernel)) ggX0_spread_X0_sink
set_option maxRecDepth 20000 in
theorem ggX0_spread_X0_raise : GoodIn wsX0_spread wsX0_raise := goodIn_r _ [40] (by decide +kernel) (by decide +kernel)
set_option maxRecDepth 20000 in
theorem gX0_spread_X0_raise : GoodIn wsX0_spread (va_wsS RX0 97 yX0_raise wsX0_raise) := goodIn_app (goodIn_of _ (by decide +kernel)) ggX0_spread_X0_raise
set_option maxRecDepth 20000 in
theorem ggX0_spread_X0_climb : GoodIn wsX0_spread wsX0_climb := goodIn_r _ [44, 9, 24, 23, 35, 34, 36, 37, 38, 39, 20, 40, 52, 53, 54, 55, 56, 57, 58, 59, 60, 61, 62, 63, 64, 65] (by decide +kernel) (by decide +kernel)
set_option maxRecDepth 20000 in
theorem gX0_spread_X0_climb : GoodIn wsX0_spread (wsV RX0 83 RX0 yX0_climb wsX0_climb) := goodIn_app (goodIn_of _ (by decide +kernel)) ggX0_spread_X0_climb
set_option maxRecDepth 20000 in
theorem ggX0_spread_X0_lower : GoodIn wsX0_spread wsX0_lower := goodIn_r _ [51] (by decide +kernel) (by decide +kernel)
set_option maxRecDepth 20000 in
theorem gX0_spread_X0_lower : GoodIn wsX0_spread (va_wsS RX0 100 yX0_lower wsX0_lower) := goodIn_app (goodIn_of _ (by decide +kernel)) ggX0_spread_X0_lower
theorem dX0_spread_0 : decode cX0_spread 0 = .ok (.aload_n 0, 1) := by decide +kernel
theorem dX0_spread_1 : decode cX0_spread 1 = .ok (.getfield 53, 3) := by decide +kernel
theorem dX0_spread_4 : decode cX0_spread 4 = .ok (.ifCond .eq 4, 3) := by decide +kernel
theorem dX0_spread_7 : decode cX0_spread 7 = .ok (.return_, 1) := by decide +kernel
theorem dX0_spread_8 : decode cX0_spread 8 = .ok (.aload_n 0, 1) := by decide +kernel
theorem dX0_spread_9 : decode cX0_spread 9 = .ok (.invokevirtual 70, 3) := by decide +kernel
theorem dX0_spread_12 : decode cX0_spread 12 = .ok (.aload_n 0, 1) := by decide +kernel
theorem dX0_spread_13 : decode cX0_spread 13 = .ok (.getfield 43, 3) := by decide +kernel
theorem dX0_spread_16 : decode cX0_spread 16 = .ok (.iconst 0, 1) := by decide +kernel
theorem dX0_spread_17 : decode cX0_spread 17 = .ok (.aload_n 0, 1) := by decide +kernel
theorem dX0_spread_18 : decode cX0_spread 18 = .ok (.getfield 40, 3) := by decide +kernel
theorem dX0_spread_21 : decode cX0_spread 21 = .ok (.iconst 0, 1) := by decide +kernel
theorem dX0_spread_22 : decode cX0_spread 22 = .ok (.bipush 65, 2) := by decide +kernel
theorem dX0_spread_24 : decode cX0_spread 24 = .ok (.invokestatic 87, 3) := by decide +kernel
theorem dX0_spread_27 : decode cX0_spread 27 = .ok (.aload_n 0, 1) := by decide +kernel
theorem dX0_spread_28 : decode cX0_spread 28 = .ok (.getfield 46, 3) := by decide +kernel
theorem dX0_spread_31 : decode cX0_spread 31 = .ok (.astore_n 1, 1) := by decide +kernel
theorem dX0_spread_32 : decode cX0_spread 32 = .ok (.aload_n 1, 1) := by decide +kernel
theorem dX0_spread_33 : decode cX0_spread 33 = .ok (.aload_n 0, 1) := by decide +kernel
theorem dX0_spread_34 : decode cX0_spread 34 = .ok (.getfield 9, 3) := by decide +kernel
theorem dX0_spread_37 : decode cX0_spread 37 = .ok (.invokestatic 73, 3) := by decide +kernel
theorem dX0_spread_40 : decode cX0_spread 40 = .ok (.aload_n 1, 1) := by decide +kernel
theorem dX0_spread_41 : decode cX0_spread 41 = .ok (.iconst 0, 1) := by decide +kernel
theorem dX0_spread_42 : decode cX0_spread 42 = .ok (.iconst 0, 1) := by decide +kernel
theorem dX0_spread_43 : decode cX0_spread 43 = .ok (.iastore, 1) := by decide +kernel
theorem dX0_spread_44 : decode cX0_spread 44 = .ok (.aload_n 0, 1) := by decide +kernel
theorem dX0_spread_45 : decode cX0_spread 45 = .ok (.aload_n 1, 1) := by decide +kernel
theorem dX0_spread_46 : decode cX0_spread 46 = .ok (.invokevirtual 93, 3) := by decide +kernel
theorem dX0_spread_49 : decode cX0_spread 49 = .ok (.bipush 64, 2) := by decide +kernel
theorem dX0_spread_51 : decode cX0_spread 51 = .ok (.istore_n 2, 1) := by decide +kernel
theorem dX0_spread_52 : decode cX0_spread 52 = .ok (.iload_n 2, 1) := by decide +kernel
theorem dX0_spread_53 : decode cX0_spread 53 = .ok (.ifCond .le 103, 3) := by decide +kernel
theorem dX0_spread_56 : decode cX0_spread 56 = .ok (.aload_n 0, 1) := by decide +kernel
theorem dX0_spread_57 : decode cX0_spread 57 = .ok (.getfield 40, 3) := by decide +kernel
theorem dX0_spread_60 : decode cX0_spread 60 = .ok (.bipush 64, 2) := by decide +kernel
theorem dX0_spread_62 : decode cX0_spread 62 = .ok (.iload_n 2, 1) := by decide +kernel
theorem dX0_spread_63 : decode cX0_spread 63 = .ok (.isub, 1) := by decide +kernel
theorem dX0_spread_64 : decode cX0_spread 64 = .ok (.iaload, 1) := by decide +kernel
theorem dX0_spread_65 : decode cX0_spread 65 = .ok (.istore_n 3, 1) := by decide +kernel
theorem dX0_spread_66 : decode cX0_spread 66 = .ok (.bipush 64, 2) := by decide +kernel
theorem dX0_spread_68 : decode cX0_spread 68 = .ok (.iload_n 2, 1) := by decide +kernel
theorem dX0_spread_69 : decode cX0_spread 69 = .ok (.isub, 1) := by decide +kernel
theorem dX0_spread_70 : decode cX0_spread 70 = .ok (.iconst 1, 1) := by decide +kernel
theorem dX0_spread_71 : decode cX0_spread 71 = .ok (.iadd, 1) := by decide +kernel
theorem dX0_spread_72 : decode cX0_spread 72 = .ok (.istore 4, 2) := by decide +kernel
theorem dX0_spread_74 : decode cX0_spread 74 = .ok (.iload_n 3, 1) := by decide +kernel
theorem dX0_spread_75 : decode cX0_spread 75 = .ok (.aload_n 0, 1) := by decide +kernel
theorem dX0_spread_76 : decode cX0_spread 76 = .ok (.getfield 9, 3) := by decide +kernel
theorem dX0_spread_79 : decode cX0_spread 79 = .ok (.iload_n 3, 1) := by decide +kernel
theorem dX0_spread_80 : decode cX0_spread 80 = .ok (.isub, 1) := by decide +kernel
theorem dX0_spread_81 : decode cX0_spread 81 = .ok (.iload_n 2, 1) := by decide +kernel
theorem dX0_spread_82 : decode cX0_spread 82 = .ok (.idiv, 1) := by decide +kernel
theorem dX0_spread_83 : decode cX0_spread 83 = .ok (.iadd, 1) := by decide +kernel
theorem dX0_spread_84 : decode cX0_spread 84 = .ok (.istore 5, 2) := by decide +kernel
theorem dX0_spread_86 : decode cX0_spread 86 = .ok (.iload 5, 2) := by decide +kernel
theorem dX0_spread_88 : decode cX0_spread 88 = .ok (.aload_n 0, 1) := by decide +kernel
theorem dX0_spread_89 : decode cX0_spread 89 = .ok (.getfield 40, 3) := by decide +kernel
theorem dX0_spread_92 : decode cX0_spread 92 = .ok (.iload 4, 2) := by decide +kernel
theorem dX0_spread_94 : decode cX0_spread 94 = .ok (.iaload, 1) := by decide +kernel
theorem dX0_spread_95 : decode cX0_spread 95 = .ok (.invokestatic 67, 3) := by decide +kernel
theorem dX0_spread_98 : decode cX0_spread 98 = .ok (.aload_n 1, 1) := by decide +kernel
theorem dX0_spread_99 : decode cX0_spread 99 = .ok (.iload 4, 2) := by decide +kernel
theorem dX0_spread_101 : decode cX0_spread 101 = .ok (.iaload, 1) := by decide +kernel
theorem dX0_spread_102 : decode cX0_spread 102 = .ok (.invokestatic 61, 3) := by decide +kernel
theorem dX0_spread_105 : decode cX0_spread 105 = .ok (.istore 6, 2) := by decide +kernel
theorem dX0_spread_107 : decode cX0_spread 107 = .ok (.aload_n 0, 1) := by decide +kernel
theorem dX0_spread_108 : decode cX0_spread 108 = .ok (.getfield 40, 3) := by decide +kernel
theorem dX0_spread_111 : decode cX0_spread 111 = .ok (.iload 4, 2) := by decide +kernel
theorem dX0_spread_113 : decode cX0_spread 113 = .ok (.iload 6, 2) := by decide +kernel
theorem dX0_spread_115 : decode cX0_spread 115 = .ok (.invokestatic 97, 3) := by decide +kernel
theorem dX0_spread_118 : decode cX0_spread 118 = .ok (.ifCond .eq 16, 3) := by decide +kernel
theorem dX0_spread_121 : decode cX0_spread 121 = .ok (.aload_n 0, 1) := by decide +kernel
theorem dX0_spread_122 : decode cX0_spread 122 = .ok (.aload_n 0, 1) := by decide +kernel
theorem dX0_spread_123 : decode cX0_spread 123 = .ok (.getfield 40, 3) := by decide +kernel
theorem dX0_spread_126 : decode cX0_spread 126 = .ok (.iload 4, 2) := by decide +kernel
theorem dX0_spread_128 : decode cX0_spread 128 = .ok (.iload 6, 2) := by decide +kernel
theorem dX0_spread_130 : decode cX0_spread 130 = .ok (.invokevirtual 83, 3) := by decide +kernel
theorem dX0_spread_133 : decode cX0_spread 133 = .ok (.pop, 1) := by decide +kernel
theorem dX0_spread_134 : decode cX0_spread 134 = .ok (.aload_n 1, 1) := by decide +kernel
theorem dX0_spread_135 : decode cX0_spread 135 = .ok (.iload 4, 2) := by decide +kernel
theorem dX0_spread_137 : decode cX0_spread 137 = .ok (.iload 6, 2) := by decide +kernel
theorem dX0_spread_139 : decode cX0_spread 139 = .ok (.invokestatic 100, 3) := by decide +kernel
theorem dX0_spread_142 : decode cX0_spread 142 = .ok (.ifCond .eq 8, 3) := by decide +kernel
theorem dX0_spread_145 : decode cX0_spread 145 = .ok (.aload_n 0, 1) := by decide +kernel
theorem dX0_spread_146 : decode cX0_spread 146 = .ok (.aload_n 1, 1) := by decide +kernel
theorem dX0_spread_147 : decode cX0_spread 147 = .ok (.invokevirtual 93, 3) := by decide +kernel
theorem dX0_spread_150 : decode cX0_spread 150 = .ok (.iinc 2 (-1), 3) := by decide +kernel
theorem dX0_spread_153 : decode cX0_spread 153 = .ok (.goto (-101), 3) := by decide +kernel
theorem dX0_spread_156 : decode cX0_spread 156 = .ok (.aload_n 0, 1) := by decide +kernel
theorem dX0_spread_157 : decode cX0_spread 157 = .ok (.iconst 1, 1) := by decide +kernel
theorem dX0_spread_158 : decode cX0_spread 158 = .ok (.putfield 53, 3) := by decide +kernel
theorem dX0_spread_161 : decode cX0_spread 161 = .ok (.return_, 1) := by decide +kernel
