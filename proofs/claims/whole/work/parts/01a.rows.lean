theorem dX0_init_0 : decode cX0_init 0 = .ok (.aload_n 0, 1) := by decide +kernel
theorem dX0_init_1 : decode cX0_init 1 = .ok (.invokespecial 3, 3) := by decide +kernel
theorem dX0_init_4 : decode cX0_init 4 = .ok (.aload_n 0, 1) := by decide +kernel
theorem dX0_init_5 : decode cX0_init 5 = .ok (.bipush 20, 2) := by decide +kernel
theorem dX0_init_7 : decode cX0_init 7 = .ok (.newarray .int, 2) := by decide +kernel
theorem dX0_init_9 : decode cX0_init 9 = .ok (.putfield 9, 3) := by decide +kernel
theorem dX0_init_12 : decode cX0_init 12 = .ok (.aload_n 0, 1) := by decide +kernel
theorem dX0_init_13 : decode cX0_init 13 = .ok (.bipush 20, 2) := by decide +kernel
theorem dX0_init_15 : decode cX0_init 15 = .ok (.newarray .int, 2) := by decide +kernel
theorem dX0_init_17 : decode cX0_init 17 = .ok (.putfield 15, 3) := by decide +kernel
theorem dX0_init_20 : decode cX0_init 20 = .ok (.aload_n 0, 1) := by decide +kernel
theorem dX0_init_21 : decode cX0_init 21 = .ok (.bipush 20, 2) := by decide +kernel
theorem dX0_init_23 : decode cX0_init 23 = .ok (.newarray .int, 2) := by decide +kernel
theorem dX0_init_25 : decode cX0_init 25 = .ok (.putfield 18, 3) := by decide +kernel
theorem dX0_init_28 : decode cX0_init 28 = .ok (.aload_n 0, 1) := by decide +kernel
theorem dX0_init_29 : decode cX0_init 29 = .ok (.iconst 0, 1) := by decide +kernel
theorem dX0_init_30 : decode cX0_init 30 = .ok (.putfield 21, 3) := by decide +kernel
theorem dX0_init_33 : decode cX0_init 33 = .ok (.return_, 1) := by decide +kernel
theorem dX0_enter_0 : decode cX0_enter 0 = .ok (.aload_n 0, 1) := by decide +kernel
theorem dX0_enter_1 : decode cX0_enter 1 = .ok (.getfield 21, 3) := by decide +kernel
theorem dX0_enter_4 : decode cX0_enter 4 = .ok (.bipush 20, 2) := by decide +kernel
theorem dX0_enter_6 : decode cX0_enter 6 = .ok (.if_icmp .lt 4, 3) := by decide +kernel
theorem dX0_enter_9 : decode cX0_enter 9 = .ok (.return_, 1) := by decide +kernel
theorem dX0_enter_10 : decode cX0_enter 10 = .ok (.aload_n 0, 1) := by decide +kernel
theorem dX0_enter_11 : decode cX0_enter 11 = .ok (.getfield 9, 3) := by decide +kernel
theorem dX0_enter_14 : decode cX0_enter 14 = .ok (.aload_n 0, 1) := by decide +kernel
theorem dX0_enter_15 : decode cX0_enter 15 = .ok (.getfield 21, 3) := by decide +kernel
theorem dX0_enter_18 : decode cX0_enter 18 = .ok (.iload_n 1, 1) := by decide +kernel
theorem dX0_enter_19 : decode cX0_enter 19 = .ok (.iastore, 1) := by decide +kernel
theorem dX0_enter_20 : decode cX0_enter 20 = .ok (.aload_n 0, 1) := by decide +kernel
theorem dX0_enter_21 : decode cX0_enter 21 = .ok (.getfield 15, 3) := by decide +kernel
theorem dX0_enter_24 : decode cX0_enter 24 = .ok (.aload_n 0, 1) := by decide +kernel
theorem dX0_enter_25 : decode cX0_enter 25 = .ok (.getfield 21, 3) := by decide +kernel
theorem dX0_enter_28 : decode cX0_enter 28 = .ok (.iload_n 2, 1) := by decide +kernel
theorem dX0_enter_29 : decode cX0_enter 29 = .ok (.iastore, 1) := by decide +kernel
theorem dX0_enter_30 : decode cX0_enter 30 = .ok (.aload_n 0, 1) := by decide +kernel
theorem dX0_enter_31 : decode cX0_enter 31 = .ok (.getfield 18, 3) := by decide +kernel
theorem dX0_enter_34 : decode cX0_enter 34 = .ok (.aload_n 0, 1) := by decide +kernel
theorem dX0_enter_35 : decode cX0_enter 35 = .ok (.getfield 21, 3) := by decide +kernel
theorem dX0_enter_38 : decode cX0_enter 38 = .ok (.iload_n 3, 1) := by decide +kernel
theorem dX0_enter_39 : decode cX0_enter 39 = .ok (.iastore, 1) := by decide +kernel
theorem dX0_enter_40 : decode cX0_enter 40 = .ok (.aload_n 0, 1) := by decide +kernel
theorem dX0_enter_41 : decode cX0_enter 41 = .ok (.dup, 1) := by decide +kernel
theorem dX0_enter_42 : decode cX0_enter 42 = .ok (.getfield 21, 3) := by decide +kernel
theorem dX0_enter_45 : decode cX0_enter 45 = .ok (.iconst 1, 1) := by decide +kernel
theorem dX0_enter_46 : decode cX0_enter 46 = .ok (.iadd, 1) := by decide +kernel
theorem dX0_enter_47 : decode cX0_enter 47 = .ok (.putfield 21, 3) := by decide +kernel
theorem dX0_enter_50 : decode cX0_enter 50 = .ok (.return_, 1) := by decide +kernel
set_option maxRecDepth 20000 in
theorem ggX0_firstWrong_X1_isAwake : GoodIn wsX0_firstWrong wsX1_isAwake := goodIn_r _ [8, 9, 10, 11, 12, 6, 13, 14, 15, 16, 17, 107, 108, 109, 110, 111, 112, 113] (by decide +kernel) (by decide +kernel)
set_option maxRecDepth 20000 in
theorem gX0_firstWrong_X1_isAwake_n25 : GoodIn wsX0_firstWrong (wsX1_isAwake) := ggX0_firstWrong_X1_isAwake
set_option maxRecDepth 20000 in
theorem ggX0_firstWrong_X2_walk : GoodIn wsX0_firstWrong wsX2_walk := goodIn_r _ [21, 22, 23, 24, 25, 26, 27, 28, 29, 19, 30, 31, 32, 33, 34, 35, 36, 37, 38, 39, 40, 41, 42, 43, 44, 45, 46, 47, 48, 49, 50, 6, 51, 52, 53, 54, 55, 56, 57, 58, 59, 60, 61, 62, 63, 64, 65, 66, 67, 68, 69, 15, 16, 17, 70, 71, 72, 73, 74, 75, 76, 77, 78, 79, 80, 81, 82, 83, 84, 85, 86, 87, 88, 89, 90, 91, 92, 93, 94, 95, 96, 97, 98, 99, 114, 115, 116, 117, 118, 119, 120, 121, 122, 123, 124, 125, 126, 127, 128, 129, 130, 107, 108, 109, 110, 111, 112, 113, 131, 132, 133, 134] (by decide +kernel) (by decide +kernel)
set_option maxRecDepth 20000 in
theorem gX0_firstWrong_X2_walk_n31 : GoodIn wsX0_firstWrong (wsX2_walk) := ggX0_firstWrong_X2_walk
set_option maxRecDepth 20000 in
theorem ggX0_firstWrong_X2_stepsOrNone : GoodIn wsX0_firstWrong wsX2_stepsOrNone := goodIn_r _ [102, 24, 25, 114, 115, 116, 117, 118, 119, 120, 121, 122, 123, 124, 125, 126, 127, 128, 129, 130] (by decide +kernel) (by decide +kernel)
set_option maxRecDepth 20000 in
theorem gX0_firstWrong_X2_stepsOrNone_n37 : GoodIn wsX0_firstWrong (wsX2_stepsOrNone) := ggX0_firstWrong_X2_stepsOrNone
theorem dX0_firstWrong_0 : decode cX0_firstWrong 0 = .ok (.iconst 0, 1) := by decide +kernel
theorem dX0_firstWrong_1 : decode cX0_firstWrong 1 = .ok (.istore_n 3, 1) := by decide +kernel
theorem dX0_firstWrong_2 : decode cX0_firstWrong 2 = .ok (.iload_n 3, 1) := by decide +kernel
theorem dX0_firstWrong_3 : decode cX0_firstWrong 3 = .ok (.aload_n 0, 1) := by decide +kernel
theorem dX0_firstWrong_4 : decode cX0_firstWrong 4 = .ok (.getfield 21, 3) := by decide +kernel
theorem dX0_firstWrong_7 : decode cX0_firstWrong 7 = .ok (.if_icmp .ge 68, 3) := by decide +kernel
theorem dX0_firstWrong_10 : decode cX0_firstWrong 10 = .ok (.aload_n 1, 1) := by decide +kernel
theorem dX0_firstWrong_11 : decode cX0_firstWrong 11 = .ok (.aload_n 0, 1) := by decide +kernel
theorem dX0_firstWrong_12 : decode cX0_firstWrong 12 = .ok (.getfield 9, 3) := by decide +kernel
theorem dX0_firstWrong_15 : decode cX0_firstWrong 15 = .ok (.iload_n 3, 1) := by decide +kernel
theorem dX0_firstWrong_16 : decode cX0_firstWrong 16 = .ok (.iaload, 1) := by decide +kernel
theorem dX0_firstWrong_17 : decode cX0_firstWrong 17 = .ok (.invokevirtual 25, 3) := by decide +kernel
theorem dX0_firstWrong_20 : decode cX0_firstWrong 20 = .ok (.ifCond .eq 16, 3) := by decide +kernel
theorem dX0_firstWrong_23 : decode cX0_firstWrong 23 = .ok (.aload_n 1, 1) := by decide +kernel
theorem dX0_firstWrong_24 : decode cX0_firstWrong 24 = .ok (.aload_n 0, 1) := by decide +kernel
theorem dX0_firstWrong_25 : decode cX0_firstWrong 25 = .ok (.getfield 15, 3) := by decide +kernel
theorem dX0_firstWrong_28 : decode cX0_firstWrong 28 = .ok (.iload_n 3, 1) := by decide +kernel
theorem dX0_firstWrong_29 : decode cX0_firstWrong 29 = .ok (.iaload, 1) := by decide +kernel
theorem dX0_firstWrong_30 : decode cX0_firstWrong 30 = .ok (.invokevirtual 25, 3) := by decide +kernel
theorem dX0_firstWrong_33 : decode cX0_firstWrong 33 = .ok (.ifCond .ne 5, 3) := by decide +kernel
theorem dX0_firstWrong_36 : decode cX0_firstWrong 36 = .ok (.iload_n 3, 1) := by decide +kernel
theorem dX0_firstWrong_37 : decode cX0_firstWrong 37 = .ok (.ireturn, 1) := by decide +kernel
theorem dX0_firstWrong_38 : decode cX0_firstWrong 38 = .ok (.aload_n 2, 1) := by decide +kernel
theorem dX0_firstWrong_39 : decode cX0_firstWrong 39 = .ok (.aload_n 0, 1) := by decide +kernel
theorem dX0_firstWrong_40 : decode cX0_firstWrong 40 = .ok (.getfield 9, 3) := by decide +kernel
theorem dX0_firstWrong_43 : decode cX0_firstWrong 43 = .ok (.iload_n 3, 1) := by decide +kernel
theorem dX0_firstWrong_44 : decode cX0_firstWrong 44 = .ok (.iaload, 1) := by decide +kernel
theorem dX0_firstWrong_45 : decode cX0_firstWrong 45 = .ok (.aload_n 0, 1) := by decide +kernel
theorem dX0_firstWrong_46 : decode cX0_firstWrong 46 = .ok (.getfield 15, 3) := by decide +kernel
theorem dX0_firstWrong_49 : decode cX0_firstWrong 49 = .ok (.iload_n 3, 1) := by decide +kernel
theorem dX0_firstWrong_50 : decode cX0_firstWrong 50 = .ok (.iaload, 1) := by decide +kernel
theorem dX0_firstWrong_51 : decode cX0_firstWrong 51 = .ok (.invokevirtual 31, 3) := by decide +kernel
theorem dX0_firstWrong_54 : decode cX0_firstWrong 54 = .ok (.aload_n 2, 1) := by decide +kernel
theorem dX0_firstWrong_55 : decode cX0_firstWrong 55 = .ok (.invokevirtual 37, 3) := by decide +kernel
theorem dX0_firstWrong_58 : decode cX0_firstWrong 58 = .ok (.aload_n 0, 1) := by decide +kernel
theorem dX0_firstWrong_59 : decode cX0_firstWrong 59 = .ok (.getfield 18, 3) := by decide +kernel
theorem dX0_firstWrong_62 : decode cX0_firstWrong 62 = .ok (.iload_n 3, 1) := by decide +kernel
theorem dX0_firstWrong_63 : decode cX0_firstWrong 63 = .ok (.iaload, 1) := by decide +kernel
theorem dX0_firstWrong_64 : decode cX0_firstWrong 64 = .ok (.if_icmp .eq 5, 3) := by decide +kernel
theorem dX0_firstWrong_67 : decode cX0_firstWrong 67 = .ok (.iload_n 3, 1) := by decide +kernel
theorem dX0_firstWrong_68 : decode cX0_firstWrong 68 = .ok (.ireturn, 1) := by decide +kernel
theorem dX0_firstWrong_69 : decode cX0_firstWrong 69 = .ok (.iinc 3 1, 3) := by decide +kernel
theorem dX0_firstWrong_72 : decode cX0_firstWrong 72 = .ok (.goto (-70), 3) := by decide +kernel
theorem dX0_firstWrong_75 : decode cX0_firstWrong 75 = .ok (.iconst (-1), 1) := by decide +kernel
theorem dX0_firstWrong_76 : decode cX0_firstWrong 76 = .ok (.ireturn, 1) := by decide +kernel
theorem dX1_init_0 : decode cX1_init 0 = .ok (.aload_n 0, 1) := by decide +kernel
theorem dX1_init_1 : decode cX1_init 1 = .ok (.invokespecial 3, 3) := by decide +kernel
theorem dX1_init_4 : decode cX1_init 4 = .ok (.aload_n 0, 1) := by decide +kernel
theorem dX1_init_5 : decode cX1_init 5 = .ok (.bipush 10, 2) := by decide +kernel
theorem dX1_init_7 : decode cX1_init 7 = .ok (.newarray .int, 2) := by decide +kernel
theorem dX1_init_9 : decode cX1_init 9 = .ok (.putfield 9, 3) := by decide +kernel
theorem dX1_init_12 : decode cX1_init 12 = .ok (.aload_n 0, 1) := by decide +kernel
theorem dX1_init_13 : decode cX1_init 13 = .ok (.bipush 10, 2) := by decide +kernel
theorem dX1_init_15 : decode cX1_init 15 = .ok (.newarray .int, 2) := by decide +kernel
theorem dX1_init_17 : decode cX1_init 17 = .ok (.putfield 15, 3) := by decide +kernel
theorem dX1_init_20 : decode cX1_init 20 = .ok (.aload_n 0, 1) := by decide +kernel
theorem dX1_init_21 : decode cX1_init 21 = .ok (.iconst 0, 1) := by decide +kernel
theorem dX1_init_22 : decode cX1_init 22 = .ok (.putfield 18, 3) := by decide +kernel
theorem dX1_init_25 : decode cX1_init 25 = .ok (.aload_n 0, 1) := by decide +kernel
theorem dX1_init_26 : decode cX1_init 26 = .ok (.iconst 0, 1) := by decide +kernel
theorem dX1_init_27 : decode cX1_init 27 = .ok (.putfield 22, 3) := by decide +kernel
theorem dX1_init_30 : decode cX1_init 30 = .ok (.aload_n 0, 1) := by decide +kernel
theorem dX1_init_31 : decode cX1_init 31 = .ok (.sipush 400, 3) := by decide +kernel
theorem dX1_init_34 : decode cX1_init 34 = .ok (.putfield 25, 3) := by decide +kernel
theorem dX1_init_37 : decode cX1_init 37 = .ok (.aload_n 0, 1) := by decide +kernel
theorem dX1_init_38 : decode cX1_init 38 = .ok (.iconst 0, 1) := by decide +kernel
theorem dX1_init_39 : decode cX1_init 39 = .ok (.putfield 28, 3) := by decide +kernel
theorem dX1_init_42 : decode cX1_init 42 = .ok (.aload_n 0, 1) := by decide +kernel
theorem dX1_init_43 : decode cX1_init 43 = .ok (.iconst 0, 1) := by decide +kernel
theorem dX1_init_44 : decode cX1_init 44 = .ok (.putfield 31, 3) := by decide +kernel
theorem dX1_init_47 : decode cX1_init 47 = .ok (.return_, 1) := by decide +kernel
theorem dX1_has_0 : decode cX1_has 0 = .ok (.iload_n 1, 1) := by decide +kernel
theorem dX1_has_1 : decode cX1_has 1 = .ok (.ifCond .lt 15, 3) := by decide +kernel
theorem dX1_has_4 : decode cX1_has 4 = .ok (.iload_n 1, 1) := by decide +kernel
theorem dX1_has_5 : decode cX1_has 5 = .ok (.aload_n 0, 1) := by decide +kernel
theorem dX1_has_6 : decode cX1_has 6 = .ok (.getfield 18, 3) := by decide +kernel
theorem dX1_has_9 : decode cX1_has 9 = .ok (.if_icmp .ge 7, 3) := by decide +kernel
theorem dX1_has_12 : decode cX1_has 12 = .ok (.iconst 1, 1) := by decide +kernel
theorem dX1_has_13 : decode cX1_has 13 = .ok (.goto 4, 3) := by decide +kernel
theorem dX1_has_16 : decode cX1_has 16 = .ok (.iconst 0, 1) := by decide +kernel
theorem dX1_has_17 : decode cX1_has 17 = .ok (.ireturn, 1) := by decide +kernel
set_option maxRecDepth 20000 in
theorem ggX1_isAwake_X1_has : GoodIn wsX1_isAwake wsX1_has := goodIn_r _ [6, 7, 11, 12, 13, 14, 15, 16, 17] (by decide +kernel) (by decide +kernel)
set_option maxRecDepth 20000 in
theorem gX1_isAwake_X1_has : GoodIn wsX1_isAwake (wsV RX1 34 RX1 yX1_has wsX1_has) := goodIn_app (goodIn_of _ (by decide +kernel)) ggX1_isAwake_X1_has
set_option maxRecDepth 20000 in
theorem ggX1_isAwake_X5_holds : GoodIn wsX1_isAwake wsX5_holds := goodIn_r _ [10] (by decide +kernel) (by decide +kernel)
set_option maxRecDepth 20000 in
theorem gX1_isAwake_X5_holds_n38 : GoodIn wsX1_isAwake (wsX5_holds) := ggX1_isAwake_X5_holds
theorem dX1_isAwake_0 : decode cX1_isAwake 0 = .ok (.aload_n 0, 1) := by decide +kernel
theorem dX1_isAwake_1 : decode cX1_isAwake 1 = .ok (.iload_n 1, 1) := by decide +kernel
theorem dX1_isAwake_2 : decode cX1_isAwake 2 = .ok (.invokevirtual 34, 3) := by decide +kernel
theorem dX1_isAwake_5 : decode cX1_isAwake 5 = .ok (.ifCond .eq 18, 3) := by decide +kernel
theorem dX1_isAwake_8 : decode cX1_isAwake 8 = .ok (.aload_n 0, 1) := by decide +kernel
theorem dX1_isAwake_9 : decode cX1_isAwake 9 = .ok (.getfield 22, 3) := by decide +kernel
theorem dX1_isAwake_12 : decode cX1_isAwake 12 = .ok (.iload_n 1, 1) := by decide +kernel
theorem dX1_isAwake_13 : decode cX1_isAwake 13 = .ok (.invokestatic 38, 3) := by decide +kernel
theorem dX1_isAwake_16 : decode cX1_isAwake 16 = .ok (.ifCond .eq 7, 3) := by decide +kernel
theorem dX1_isAwake_19 : decode cX1_isAwake 19 = .ok (.iconst 1, 1) := by decide +kernel
theorem dX1_isAwake_20 : decode cX1_isAwake 20 = .ok (.goto 4, 3) := by decide +kernel
theorem dX1_isAwake_23 : decode cX1_isAwake 23 = .ok (.iconst 0, 1) := by decide +kernel
theorem dX1_isAwake_24 : decode cX1_isAwake 24 = .ok (.ireturn, 1) := by decide +kernel
theorem dX1_whoStandsAt_0 : decode cX1_whoStandsAt 0 = .ok (.iconst 0, 1) := by decide +kernel
theorem dX1_whoStandsAt_1 : decode cX1_whoStandsAt 1 = .ok (.istore_n 3, 1) := by decide +kernel
theorem dX1_whoStandsAt_2 : decode cX1_whoStandsAt 2 = .ok (.iload_n 3, 1) := by decide +kernel
theorem dX1_whoStandsAt_3 : decode cX1_whoStandsAt 3 = .ok (.aload_n 0, 1) := by decide +kernel
theorem dX1_whoStandsAt_4 : decode cX1_whoStandsAt 4 = .ok (.getfield 18, 3) := by decide +kernel
theorem dX1_whoStandsAt_7 : decode cX1_whoStandsAt 7 = .ok (.if_icmp .ge 31, 3) := by decide +kernel
theorem dX1_whoStandsAt_10 : decode cX1_whoStandsAt 10 = .ok (.aload_n 0, 1) := by decide +kernel
theorem dX1_whoStandsAt_11 : decode cX1_whoStandsAt 11 = .ok (.getfield 9, 3) := by decide +kernel
theorem dX1_whoStandsAt_14 : decode cX1_whoStandsAt 14 = .ok (.iload_n 3, 1) := by decide +kernel
theorem dX1_whoStandsAt_15 : decode cX1_whoStandsAt 15 = .ok (.iaload, 1) := by decide +kernel
theorem dX1_whoStandsAt_16 : decode cX1_whoStandsAt 16 = .ok (.iload_n 1, 1) := by decide +kernel
theorem dX1_whoStandsAt_17 : decode cX1_whoStandsAt 17 = .ok (.if_icmp .ne 15, 3) := by decide +kernel
theorem dX1_whoStandsAt_20 : decode cX1_whoStandsAt 20 = .ok (.aload_n 0, 1) := by decide +kernel
theorem dX1_whoStandsAt_21 : decode cX1_whoStandsAt 21 = .ok (.getfield 15, 3) := by decide +kernel
theorem dX1_whoStandsAt_24 : decode cX1_whoStandsAt 24 = .ok (.iload_n 3, 1) := by decide +kernel
theorem dX1_whoStandsAt_25 : decode cX1_whoStandsAt 25 = .ok (.iaload, 1) := by decide +kernel
theorem dX1_whoStandsAt_26 : decode cX1_whoStandsAt 26 = .ok (.iload_n 2, 1) := by decide +kernel
theorem dX1_whoStandsAt_27 : decode cX1_whoStandsAt 27 = .ok (.if_icmp .ne 5, 3) := by decide +kernel
theorem dX1_whoStandsAt_30 : decode cX1_whoStandsAt 30 = .ok (.iload_n 3, 1) := by decide +kernel
theorem dX1_whoStandsAt_31 : decode cX1_whoStandsAt 31 = .ok (.ireturn, 1) := by decide +kernel
theorem dX1_whoStandsAt_32 : decode cX1_whoStandsAt 32 = .ok (.iinc 3 1, 3) := by decide +kernel
theorem dX1_whoStandsAt_35 : decode cX1_whoStandsAt 35 = .ok (.goto (-33), 3) := by decide +kernel
theorem dX1_whoStandsAt_38 : decode cX1_whoStandsAt 38 = .ok (.iconst (-1), 1) := by decide +kernel
theorem dX1_whoStandsAt_39 : decode cX1_whoStandsAt 39 = .ok (.ireturn, 1) := by decide +kernel
theorem dX1_apart_0 : decode cX1_apart 0 = .ok (.aload_n 0, 1) := by decide +kernel
theorem dX1_apart_1 : decode cX1_apart 1 = .ok (.getfield 9, 3) := by decide +kernel
theorem dX1_apart_4 : decode cX1_apart 4 = .ok (.iload_n 1, 1) := by decide +kernel
theorem dX1_apart_5 : decode cX1_apart 5 = .ok (.iaload, 1) := by decide +kernel
theorem dX1_apart_6 : decode cX1_apart 6 = .ok (.aload_n 0, 1) := by decide +kernel
theorem dX1_apart_7 : decode cX1_apart 7 = .ok (.getfield 9, 3) := by decide +kernel
theorem dX1_apart_10 : decode cX1_apart 10 = .ok (.iload_n 2, 1) := by decide +kernel
theorem dX1_apart_11 : decode cX1_apart 11 = .ok (.iaload, 1) := by decide +kernel
theorem dX1_apart_12 : decode cX1_apart 12 = .ok (.isub, 1) := by decide +kernel
theorem dX1_apart_13 : decode cX1_apart 13 = .ok (.istore_n 3, 1) := by decide +kernel
theorem dX1_apart_14 : decode cX1_apart 14 = .ok (.aload_n 0, 1) := by decide +kernel
theorem dX1_apart_15 : decode cX1_apart 15 = .ok (.getfield 15, 3) := by decide +kernel
theorem dX1_apart_18 : decode cX1_apart 18 = .ok (.iload_n 1, 1) := by decide +kernel
theorem dX1_apart_19 : decode cX1_apart 19 = .ok (.iaload, 1) := by decide +kernel
theorem dX1_apart_20 : decode cX1_apart 20 = .ok (.aload_n 0, 1) := by decide +kernel
theorem dX1_apart_21 : decode cX1_apart 21 = .ok (.getfield 15, 3) := by decide +kernel
theorem dX1_apart_24 : decode cX1_apart 24 = .ok (.iload_n 2, 1) := by decide +kernel
theorem dX1_apart_25 : decode cX1_apart 25 = .ok (.iaload, 1) := by decide +kernel
theorem dX1_apart_26 : decode cX1_apart 26 = .ok (.isub, 1) := by decide +kernel
theorem dX1_apart_27 : decode cX1_apart 27 = .ok (.istore 4, 2) := by decide +kernel
theorem dX1_apart_29 : decode cX1_apart 29 = .ok (.iload_n 3, 1) := by decide +kernel
theorem dX1_apart_30 : decode cX1_apart 30 = .ok (.iload_n 3, 1) := by decide +kernel
theorem dX1_apart_31 : decode cX1_apart 31 = .ok (.imul, 1) := by decide +kernel
theorem dX1_apart_32 : decode cX1_apart 32 = .ok (.iload 4, 2) := by decide +kernel
theorem dX1_apart_34 : decode cX1_apart 34 = .ok (.iload 4, 2) := by decide +kernel
theorem dX1_apart_36 : decode cX1_apart 36 = .ok (.imul, 1) := by decide +kernel
theorem dX1_apart_37 : decode cX1_apart 37 = .ok (.iadd, 1) := by decide +kernel
theorem dX1_apart_38 : decode cX1_apart 38 = .ok (.ireturn, 1) := by decide +kernel
theorem dX1_sideOf_0 : decode cX1_sideOf 0 = .ok (.aload_n 0, 1) := by decide +kernel
theorem dX1_sideOf_1 : decode cX1_sideOf 1 = .ok (.getfield 9, 3) := by decide +kernel
theorem dX1_sideOf_4 : decode cX1_sideOf 4 = .ok (.iload_n 2, 1) := by decide +kernel
theorem dX1_sideOf_5 : decode cX1_sideOf 5 = .ok (.iaload, 1) := by decide +kernel
theorem dX1_sideOf_6 : decode cX1_sideOf 6 = .ok (.aload_n 0, 1) := by decide +kernel
theorem dX1_sideOf_7 : decode cX1_sideOf 7 = .ok (.getfield 9, 3) := by decide +kernel
theorem dX1_sideOf_10 : decode cX1_sideOf 10 = .ok (.iload_n 1, 1) := by decide +kernel
theorem dX1_sideOf_11 : decode cX1_sideOf 11 = .ok (.iaload, 1) := by decide +kernel
theorem dX1_sideOf_12 : decode cX1_sideOf 12 = .ok (.isub, 1) := by decide +kernel
theorem dX1_sideOf_13 : decode cX1_sideOf 13 = .ok (.aload_n 0, 1) := by decide +kernel
theorem dX1_sideOf_14 : decode cX1_sideOf 14 = .ok (.getfield 15, 3) := by decide +kernel
theorem dX1_sideOf_17 : decode cX1_sideOf 17 = .ok (.iload_n 3, 1) := by decide +kernel
theorem dX1_sideOf_18 : decode cX1_sideOf 18 = .ok (.iaload, 1) := by decide +kernel
theorem dX1_sideOf_19 : decode cX1_sideOf 19 = .ok (.aload_n 0, 1) := by decide +kernel
theorem dX1_sideOf_20 : decode cX1_sideOf 20 = .ok (.getfield 15, 3) := by decide +kernel
theorem dX1_sideOf_23 : decode cX1_sideOf 23 = .ok (.iload_n 1, 1) := by decide +kernel
theorem dX1_sideOf_24 : decode cX1_sideOf 24 = .ok (.iaload, 1) := by decide +kernel
theorem dX1_sideOf_25 : decode cX1_sideOf 25 = .ok (.isub, 1) := by decide +kernel
theorem dX1_sideOf_26 : decode cX1_sideOf 26 = .ok (.imul, 1) := by decide +kernel
theorem dX1_sideOf_27 : decode cX1_sideOf 27 = .ok (.aload_n 0, 1) := by decide +kernel
theorem dX1_sideOf_28 : decode cX1_sideOf 28 = .ok (.getfield 15, 3) := by decide +kernel
theorem dX1_sideOf_31 : decode cX1_sideOf 31 = .ok (.iload_n 2, 1) := by decide +kernel
theorem dX1_sideOf_32 : decode cX1_sideOf 32 = .ok (.iaload, 1) := by decide +kernel
theorem dX1_sideOf_33 : decode cX1_sideOf 33 = .ok (.aload_n 0, 1) := by decide +kernel
theorem dX1_sideOf_34 : decode cX1_sideOf 34 = .ok (.getfield 15, 3) := by decide +kernel
theorem dX1_sideOf_37 : decode cX1_sideOf 37 = .ok (.iload_n 1, 1) := by decide +kernel
theorem dX1_sideOf_38 : decode cX1_sideOf 38 = .ok (.iaload, 1) := by decide +kernel
theorem dX1_sideOf_39 : decode cX1_sideOf 39 = .ok (.isub, 1) := by decide +kernel
theorem dX1_sideOf_40 : decode cX1_sideOf 40 = .ok (.aload_n 0, 1) := by decide +kernel
theorem dX1_sideOf_41 : decode cX1_sideOf 41 = .ok (.getfield 9, 3) := by decide +kernel
theorem dX1_sideOf_44 : decode cX1_sideOf 44 = .ok (.iload_n 3, 1) := by decide +kernel
theorem dX1_sideOf_45 : decode cX1_sideOf 45 = .ok (.iaload, 1) := by decide +kernel
theorem dX1_sideOf_46 : decode cX1_sideOf 46 = .ok (.aload_n 0, 1) := by decide +kernel
theorem dX1_sideOf_47 : decode cX1_sideOf 47 = .ok (.getfield 9, 3) := by decide +kernel
theorem dX1_sideOf_50 : decode cX1_sideOf 50 = .ok (.iload_n 1, 1) := by decide +kernel
theorem dX1_sideOf_51 : decode cX1_sideOf 51 = .ok (.iaload, 1) := by decide +kernel
theorem dX1_sideOf_52 : decode cX1_sideOf 52 = .ok (.isub, 1) := by decide +kernel
theorem dX1_sideOf_53 : decode cX1_sideOf 53 = .ok (.imul, 1) := by decide +kernel
theorem dX1_sideOf_54 : decode cX1_sideOf 54 = .ok (.isub, 1) := by decide +kernel
theorem dX1_sideOf_55 : decode cX1_sideOf 55 = .ok (.ireturn, 1) := by decide +kernel
theorem dX1_aheadOf_0 : decode cX1_aheadOf 0 = .ok (.aload_n 0, 1) := by decide +kernel
theorem dX1_aheadOf_1 : decode cX1_aheadOf 1 = .ok (.getfield 9, 3) := by decide +kernel
theorem dX1_aheadOf_4 : decode cX1_aheadOf 4 = .ok (.iload_n 2, 1) := by decide +kernel
theorem dX1_aheadOf_5 : decode cX1_aheadOf 5 = .ok (.iaload, 1) := by decide +kernel
theorem dX1_aheadOf_6 : decode cX1_aheadOf 6 = .ok (.aload_n 0, 1) := by decide +kernel
theorem dX1_aheadOf_7 : decode cX1_aheadOf 7 = .ok (.getfield 9, 3) := by decide +kernel
theorem dX1_aheadOf_10 : decode cX1_aheadOf 10 = .ok (.iload_n 1, 1) := by decide +kernel
theorem dX1_aheadOf_11 : decode cX1_aheadOf 11 = .ok (.iaload, 1) := by decide +kernel
theorem dX1_aheadOf_12 : decode cX1_aheadOf 12 = .ok (.isub, 1) := by decide +kernel
theorem dX1_aheadOf_13 : decode cX1_aheadOf 13 = .ok (.aload_n 0, 1) := by decide +kernel
theorem dX1_aheadOf_14 : decode cX1_aheadOf 14 = .ok (.getfield 9, 3) := by decide +kernel
theorem dX1_aheadOf_17 : decode cX1_aheadOf 17 = .ok (.iload_n 3, 1) := by decide +kernel
theorem dX1_aheadOf_18 : decode cX1_aheadOf 18 = .ok (.iaload, 1) := by decide +kernel
theorem dX1_aheadOf_19 : decode cX1_aheadOf 19 = .ok (.aload_n 0, 1) := by decide +kernel
theorem dX1_aheadOf_20 : decode cX1_aheadOf 20 = .ok (.getfield 9, 3) := by decide +kernel
theorem dX1_aheadOf_23 : decode cX1_aheadOf 23 = .ok (.iload_n 1, 1) := by decide +kernel
theorem dX1_aheadOf_24 : decode cX1_aheadOf 24 = .ok (.iaload, 1) := by decide +kernel
theorem dX1_aheadOf_25 : decode cX1_aheadOf 25 = .ok (.isub, 1) := by decide +kernel
theorem dX1_aheadOf_26 : decode cX1_aheadOf 26 = .ok (.imul, 1) := by decide +kernel
theorem dX1_aheadOf_27 : decode cX1_aheadOf 27 = .ok (.aload_n 0, 1) := by decide +kernel
theorem dX1_aheadOf_28 : decode cX1_aheadOf 28 = .ok (.getfield 15, 3) := by decide +kernel
theorem dX1_aheadOf_31 : decode cX1_aheadOf 31 = .ok (.iload_n 2, 1) := by decide +kernel
theorem dX1_aheadOf_32 : decode cX1_aheadOf 32 = .ok (.iaload, 1) := by decide +kernel
theorem dX1_aheadOf_33 : decode cX1_aheadOf 33 = .ok (.aload_n 0, 1) := by decide +kernel
theorem dX1_aheadOf_34 : decode cX1_aheadOf 34 = .ok (.getfield 15, 3) := by decide +kernel
theorem dX1_aheadOf_37 : decode cX1_aheadOf 37 = .ok (.iload_n 1, 1) := by decide +kernel
theorem dX1_aheadOf_38 : decode cX1_aheadOf 38 = .ok (.iaload, 1) := by decide +kernel
theorem dX1_aheadOf_39 : decode cX1_aheadOf 39 = .ok (.isub, 1) := by decide +kernel
theorem dX1_aheadOf_40 : decode cX1_aheadOf 40 = .ok (.aload_n 0, 1) := by decide +kernel
theorem dX1_aheadOf_41 : decode cX1_aheadOf 41 = .ok (.getfield 15, 3) := by decide +kernel
theorem dX1_aheadOf_44 : decode cX1_aheadOf 44 = .ok (.iload_n 3, 1) := by decide +kernel
theorem dX1_aheadOf_45 : decode cX1_aheadOf 45 = .ok (.iaload, 1) := by decide +kernel
theorem dX1_aheadOf_46 : decode cX1_aheadOf 46 = .ok (.aload_n 0, 1) := by decide +kernel
theorem dX1_aheadOf_47 : decode cX1_aheadOf 47 = .ok (.getfield 15, 3) := by decide +kernel
theorem dX1_aheadOf_50 : decode cX1_aheadOf 50 = .ok (.iload_n 1, 1) := by decide +kernel
theorem dX1_aheadOf_51 : decode cX1_aheadOf 51 = .ok (.iaload, 1) := by decide +kernel
theorem dX1_aheadOf_52 : decode cX1_aheadOf 52 = .ok (.isub, 1) := by decide +kernel
theorem dX1_aheadOf_53 : decode cX1_aheadOf 53 = .ok (.imul, 1) := by decide +kernel
theorem dX1_aheadOf_54 : decode cX1_aheadOf 54 = .ok (.iadd, 1) := by decide +kernel
theorem dX1_aheadOf_55 : decode cX1_aheadOf 55 = .ok (.ireturn, 1) := by decide +kernel
theorem dX1_add_0 : decode cX1_add 0 = .ok (.aload_n 0, 1) := by decide +kernel
theorem dX1_add_1 : decode cX1_add 1 = .ok (.getfield 18, 3) := by decide +kernel
theorem dX1_add_4 : decode cX1_add 4 = .ok (.bipush 10, 2) := by decide +kernel
theorem dX1_add_6 : decode cX1_add 6 = .ok (.if_icmp .lt 4, 3) := by decide +kernel
theorem dX1_add_9 : decode cX1_add 9 = .ok (.return_, 1) := by decide +kernel
theorem dX1_add_10 : decode cX1_add 10 = .ok (.aload_n 0, 1) := by decide +kernel
theorem dX1_add_11 : decode cX1_add 11 = .ok (.getfield 9, 3) := by decide +kernel
theorem dX1_add_14 : decode cX1_add 14 = .ok (.aload_n 0, 1) := by decide +kernel
theorem dX1_add_15 : decode cX1_add 15 = .ok (.getfield 18, 3) := by decide +kernel
theorem dX1_add_18 : decode cX1_add 18 = .ok (.iload_n 1, 1) := by decide +kernel
theorem dX1_add_19 : decode cX1_add 19 = .ok (.iastore, 1) := by decide +kernel
theorem dX1_add_20 : decode cX1_add 20 = .ok (.aload_n 0, 1) := by decide +kernel
theorem dX1_add_21 : decode cX1_add 21 = .ok (.getfield 15, 3) := by decide +kernel
theorem dX1_add_24 : decode cX1_add 24 = .ok (.aload_n 0, 1) := by decide +kernel
theorem dX1_add_25 : decode cX1_add 25 = .ok (.getfield 18, 3) := by decide +kernel
theorem dX1_add_28 : decode cX1_add 28 = .ok (.iload_n 2, 1) := by decide +kernel
theorem dX1_add_29 : decode cX1_add 29 = .ok (.iastore, 1) := by decide +kernel
theorem dX1_add_30 : decode cX1_add 30 = .ok (.aload_n 0, 1) := by decide +kernel
theorem dX1_add_31 : decode cX1_add 31 = .ok (.dup, 1) := by decide +kernel
theorem dX1_add_32 : decode cX1_add 32 = .ok (.getfield 22, 3) := by decide +kernel
theorem dX1_add_35 : decode cX1_add 35 = .ok (.iconst 1, 1) := by decide +kernel
theorem dX1_add_36 : decode cX1_add 36 = .ok (.aload_n 0, 1) := by decide +kernel
theorem dX1_add_37 : decode cX1_add 37 = .ok (.getfield 18, 3) := by decide +kernel
theorem dX1_add_40 : decode cX1_add 40 = .ok (.ishl, 1) := by decide +kernel
theorem dX1_add_41 : decode cX1_add 41 = .ok (.ior, 1) := by decide +kernel
theorem dX1_add_42 : decode cX1_add 42 = .ok (.putfield 22, 3) := by decide +kernel
theorem dX1_add_45 : decode cX1_add 45 = .ok (.aload_n 0, 1) := by decide +kernel
theorem dX1_add_46 : decode cX1_add 46 = .ok (.dup, 1) := by decide +kernel
theorem dX1_add_47 : decode cX1_add 47 = .ok (.getfield 18, 3) := by decide +kernel
theorem dX1_add_50 : decode cX1_add 50 = .ok (.iconst 1, 1) := by decide +kernel
theorem dX1_add_51 : decode cX1_add 51 = .ok (.iadd, 1) := by decide +kernel
theorem dX1_add_52 : decode cX1_add 52 = .ok (.putfield 18, 3) := by decide +kernel
theorem dX1_add_55 : decode cX1_add 55 = .ok (.return_, 1) := by decide +kernel
theorem dX1_put_0 : decode cX1_put 0 = .ok (.iload_n 2, 1) := by decide +kernel
theorem dX1_put_1 : decode cX1_put 1 = .ok (.aload_n 0, 1) := by decide +kernel
theorem dX1_put_2 : decode cX1_put 2 = .ok (.getfield 9, 3) := by decide +kernel
theorem dX1_put_5 : decode cX1_put 5 = .ok (.iload_n 1, 1) := by decide +kernel
theorem dX1_put_6 : decode cX1_put 6 = .ok (.iaload, 1) := by decide +kernel
theorem dX1_put_7 : decode cX1_put 7 = .ok (.isub, 1) := by decide +kernel
theorem dX1_put_8 : decode cX1_put 8 = .ok (.istore 4, 2) := by decide +kernel
theorem dX1_put_10 : decode cX1_put 10 = .ok (.iload_n 3, 1) := by decide +kernel
theorem dX1_put_11 : decode cX1_put 11 = .ok (.aload_n 0, 1) := by decide +kernel
theorem dX1_put_12 : decode cX1_put 12 = .ok (.getfield 15, 3) := by decide +kernel
theorem dX1_put_15 : decode cX1_put 15 = .ok (.iload_n 1, 1) := by decide +kernel
theorem dX1_put_16 : decode cX1_put 16 = .ok (.iaload, 1) := by decide +kernel
theorem dX1_put_17 : decode cX1_put 17 = .ok (.isub, 1) := by decide +kernel
theorem dX1_put_18 : decode cX1_put 18 = .ok (.istore 5, 2) := by decide +kernel
theorem dX1_put_20 : decode cX1_put 20 = .ok (.aload_n 0, 1) := by decide +kernel
theorem dX1_put_21 : decode cX1_put 21 = .ok (.getfield 9, 3) := by decide +kernel
theorem dX1_put_24 : decode cX1_put 24 = .ok (.iload_n 1, 1) := by decide +kernel
theorem dX1_put_25 : decode cX1_put 25 = .ok (.iload_n 2, 1) := by decide +kernel
theorem dX1_put_26 : decode cX1_put 26 = .ok (.iastore, 1) := by decide +kernel
theorem dX1_put_27 : decode cX1_put 27 = .ok (.aload_n 0, 1) := by decide +kernel
theorem dX1_put_28 : decode cX1_put 28 = .ok (.getfield 15, 3) := by decide +kernel
theorem dX1_put_31 : decode cX1_put 31 = .ok (.iload_n 1, 1) := by decide +kernel
theorem dX1_put_32 : decode cX1_put 32 = .ok (.iload_n 3, 1) := by decide +kernel
theorem dX1_put_33 : decode cX1_put 33 = .ok (.iastore, 1) := by decide +kernel
theorem dX1_put_34 : decode cX1_put 34 = .ok (.iload 4, 2) := by decide +kernel
theorem dX1_put_36 : decode cX1_put 36 = .ok (.iload 4, 2) := by decide +kernel
theorem dX1_put_38 : decode cX1_put 38 = .ok (.imul, 1) := by decide +kernel
theorem dX1_put_39 : decode cX1_put 39 = .ok (.iload 5, 2) := by decide +kernel
theorem dX1_put_41 : decode cX1_put 41 = .ok (.iload 5, 2) := by decide +kernel
theorem dX1_put_43 : decode cX1_put 43 = .ok (.imul, 1) := by decide +kernel
theorem dX1_put_44 : decode cX1_put 44 = .ok (.iadd, 1) := by decide +kernel
theorem dX1_put_45 : decode cX1_put 45 = .ok (.ireturn, 1) := by decide +kernel
theorem dX1_setAwake_0 : decode cX1_setAwake 0 = .ok (.aload_n 0, 1) := by decide +kernel
theorem dX1_setAwake_1 : decode cX1_setAwake 1 = .ok (.iload_n 2, 1) := by decide +kernel
theorem dX1_setAwake_2 : decode cX1_setAwake 2 = .ok (.ifCond .eq 14, 3) := by decide +kernel
theorem dX1_setAwake_5 : decode cX1_setAwake 5 = .ok (.aload_n 0, 1) := by decide +kernel
theorem dX1_setAwake_6 : decode cX1_setAwake 6 = .ok (.getfield 22, 3) := by decide +kernel
theorem dX1_setAwake_9 : decode cX1_setAwake 9 = .ok (.iconst 1, 1) := by decide +kernel
theorem dX1_setAwake_10 : decode cX1_setAwake 10 = .ok (.iload_n 1, 1) := by decide +kernel
theorem dX1_setAwake_11 : decode cX1_setAwake 11 = .ok (.ishl, 1) := by decide +kernel
theorem dX1_setAwake_12 : decode cX1_setAwake 12 = .ok (.ior, 1) := by decide +kernel
theorem dX1_setAwake_13 : decode cX1_setAwake 13 = .ok (.goto 13, 3) := by decide +kernel
theorem dX1_setAwake_16 : decode cX1_setAwake 16 = .ok (.aload_n 0, 1) := by decide +kernel
theorem dX1_setAwake_17 : decode cX1_setAwake 17 = .ok (.getfield 22, 3) := by decide +kernel
theorem dX1_setAwake_20 : decode cX1_setAwake 20 = .ok (.iconst 1, 1) := by decide +kernel
theorem dX1_setAwake_21 : decode cX1_setAwake 21 = .ok (.iload_n 1, 1) := by decide +kernel
theorem dX1_setAwake_22 : decode cX1_setAwake 22 = .ok (.ishl, 1) := by decide +kernel
theorem dX1_setAwake_23 : decode cX1_setAwake 23 = .ok (.iconst (-1), 1) := by decide +kernel
theorem dX1_setAwake_24 : decode cX1_setAwake 24 = .ok (.ixor, 1) := by decide +kernel
theorem dX1_setAwake_25 : decode cX1_setAwake 25 = .ok (.iand, 1) := by decide +kernel
theorem dX1_setAwake_26 : decode cX1_setAwake 26 = .ok (.putfield 22, 3) := by decide +kernel
theorem dX1_setAwake_29 : decode cX1_setAwake 29 = .ok (.return_, 1) := by decide +kernel
theorem dX1_remove_0 : decode cX1_remove 0 = .ok (.iload_n 1, 1) := by decide +kernel
theorem dX1_remove_1 : decode cX1_remove 1 = .ok (.istore_n 2, 1) := by decide +kernel
theorem dX1_remove_2 : decode cX1_remove 2 = .ok (.iload_n 2, 1) := by decide +kernel
theorem dX1_remove_3 : decode cX1_remove 3 = .ok (.iconst 1, 1) := by decide +kernel
theorem dX1_remove_4 : decode cX1_remove 4 = .ok (.iadd, 1) := by decide +kernel
theorem dX1_remove_5 : decode cX1_remove 5 = .ok (.aload_n 0, 1) := by decide +kernel
theorem dX1_remove_6 : decode cX1_remove 6 = .ok (.getfield 18, 3) := by decide +kernel
theorem dX1_remove_9 : decode cX1_remove 9 = .ok (.if_icmp .ge 37, 3) := by decide +kernel
theorem dX1_remove_12 : decode cX1_remove 12 = .ok (.aload_n 0, 1) := by decide +kernel
theorem dX1_remove_13 : decode cX1_remove 13 = .ok (.getfield 9, 3) := by decide +kernel
theorem dX1_remove_16 : decode cX1_remove 16 = .ok (.iload_n 2, 1) := by decide +kernel
theorem dX1_remove_17 : decode cX1_remove 17 = .ok (.aload_n 0, 1) := by decide +kernel
theorem dX1_remove_18 : decode cX1_remove 18 = .ok (.getfield 9, 3) := by decide +kernel
theorem dX1_remove_21 : decode cX1_remove 21 = .ok (.iload_n 2, 1) := by decide +kernel
theorem dX1_remove_22 : decode cX1_remove 22 = .ok (.iconst 1, 1) := by decide +kernel
theorem dX1_remove_23 : decode cX1_remove 23 = .ok (.iadd, 1) := by decide +kernel
theorem dX1_remove_24 : decode cX1_remove 24 = .ok (.iaload, 1) := by decide +kernel
theorem dX1_remove_25 : decode cX1_remove 25 = .ok (.iastore, 1) := by decide +kernel
theorem dX1_remove_26 : decode cX1_remove 26 = .ok (.aload_n 0, 1) := by decide +kernel
theorem dX1_remove_27 : decode cX1_remove 27 = .ok (.getfield 15, 3) := by decide +kernel
theorem dX1_remove_30 : decode cX1_remove 30 = .ok (.iload_n 2, 1) := by decide +kernel
theorem dX1_remove_31 : decode cX1_remove 31 = .ok (.aload_n 0, 1) := by decide +kernel
theorem dX1_remove_32 : decode cX1_remove 32 = .ok (.getfield 15, 3) := by decide +kernel
theorem dX1_remove_35 : decode cX1_remove 35 = .ok (.iload_n 2, 1) := by decide +kernel
theorem dX1_remove_36 : decode cX1_remove 36 = .ok (.iconst 1, 1) := by decide +kernel
theorem dX1_remove_37 : decode cX1_remove 37 = .ok (.iadd, 1) := by decide +kernel
theorem dX1_remove_38 : decode cX1_remove 38 = .ok (.iaload, 1) := by decide +kernel
theorem dX1_remove_39 : decode cX1_remove 39 = .ok (.iastore, 1) := by decide +kernel
theorem dX1_remove_40 : decode cX1_remove 40 = .ok (.iinc 2 1, 3) := by decide +kernel
theorem dX1_remove_43 : decode cX1_remove 43 = .ok (.goto (-41), 3) := by decide +kernel
theorem dX1_remove_46 : decode cX1_remove 46 = .ok (.iconst 1, 1) := by decide +kernel
theorem dX1_remove_47 : decode cX1_remove 47 = .ok (.iload_n 1, 1) := by decide +kernel
theorem dX1_remove_48 : decode cX1_remove 48 = .ok (.ishl, 1) := by decide +kernel
theorem dX1_remove_49 : decode cX1_remove 49 = .ok (.iconst 1, 1) := by decide +kernel
theorem dX1_remove_50 : decode cX1_remove 50 = .ok (.isub, 1) := by decide +kernel
theorem dX1_remove_51 : decode cX1_remove 51 = .ok (.istore_n 2, 1) := by decide +kernel
theorem dX1_remove_52 : decode cX1_remove 52 = .ok (.aload_n 0, 1) := by decide +kernel
theorem dX1_remove_53 : decode cX1_remove 53 = .ok (.aload_n 0, 1) := by decide +kernel
theorem dX1_remove_54 : decode cX1_remove 54 = .ok (.getfield 22, 3) := by decide +kernel
theorem dX1_remove_57 : decode cX1_remove 57 = .ok (.iload_n 2, 1) := by decide +kernel
theorem dX1_remove_58 : decode cX1_remove 58 = .ok (.iand, 1) := by decide +kernel
theorem dX1_remove_59 : decode cX1_remove 59 = .ok (.aload_n 0, 1) := by decide +kernel
theorem dX1_remove_60 : decode cX1_remove 60 = .ok (.getfield 22, 3) := by decide +kernel
theorem dX1_remove_63 : decode cX1_remove 63 = .ok (.iconst 1, 1) := by decide +kernel
theorem dX1_remove_64 : decode cX1_remove 64 = .ok (.ishr, 1) := by decide +kernel
theorem dX1_remove_65 : decode cX1_remove 65 = .ok (.iload_n 2, 1) := by decide +kernel
theorem dX1_remove_66 : decode cX1_remove 66 = .ok (.iconst (-1), 1) := by decide +kernel
theorem dX1_remove_67 : decode cX1_remove 67 = .ok (.ixor, 1) := by decide +kernel
theorem dX1_remove_68 : decode cX1_remove 68 = .ok (.iand, 1) := by decide +kernel
theorem dX1_remove_69 : decode cX1_remove 69 = .ok (.ior, 1) := by decide +kernel
theorem dX1_remove_70 : decode cX1_remove 70 = .ok (.putfield 22, 3) := by decide +kernel
theorem dX1_remove_73 : decode cX1_remove 73 = .ok (.aload_n 0, 1) := by decide +kernel
theorem dX1_remove_74 : decode cX1_remove 74 = .ok (.dup, 1) := by decide +kernel
theorem dX1_remove_75 : decode cX1_remove 75 = .ok (.getfield 18, 3) := by decide +kernel
theorem dX1_remove_78 : decode cX1_remove 78 = .ok (.iconst 1, 1) := by decide +kernel
theorem dX1_remove_79 : decode cX1_remove 79 = .ok (.isub, 1) := by decide +kernel
theorem dX1_remove_80 : decode cX1_remove 80 = .ok (.putfield 18, 3) := by decide +kernel
theorem dX1_remove_83 : decode cX1_remove 83 = .ok (.return_, 1) := by decide +kernel
theorem dX1_drawPlace_0 : decode cX1_drawPlace 0 = .ok (.aload_n 0, 1) := by decide +kernel
theorem dX1_drawPlace_1 : decode cX1_drawPlace 1 = .ok (.aload_n 0, 1) := by decide +kernel
theorem dX1_drawPlace_2 : decode cX1_drawPlace 2 = .ok (.getfield 31, 3) := by decide +kernel
theorem dX1_drawPlace_5 : decode cX1_drawPlace 5 = .ok (.i2l, 1) := by decide +kernel
theorem dX1_drawPlace_6 : decode cX1_drawPlace 6 = .ok (.ldc2_w 42, 3) := by decide +kernel
theorem dX1_drawPlace_9 : decode cX1_drawPlace 9 = .ok (.lmul, 1) := by decide +kernel
theorem dX1_drawPlace_10 : decode cX1_drawPlace 10 = .ok (.ldc2_w 44, 3) := by decide +kernel
theorem dX1_drawPlace_13 : decode cX1_drawPlace 13 = .ok (.ladd, 1) := by decide +kernel
theorem dX1_drawPlace_14 : decode cX1_drawPlace 14 = .ok (.ldc2_w 46, 3) := by decide +kernel
theorem dX1_drawPlace_17 : decode cX1_drawPlace 17 = .ok (.lrem, 1) := by decide +kernel
theorem dX1_drawPlace_18 : decode cX1_drawPlace 18 = .ok (.l2i, 1) := by decide +kernel
theorem dX1_drawPlace_19 : decode cX1_drawPlace 19 = .ok (.putfield 31, 3) := by decide +kernel
theorem dX1_drawPlace_22 : decode cX1_drawPlace 22 = .ok (.aload_n 0, 1) := by decide +kernel
theorem dX1_drawPlace_23 : decode cX1_drawPlace 23 = .ok (.getfield 31, 3) := by decide +kernel
theorem dX1_drawPlace_26 : decode cX1_drawPlace 26 = .ok (.ldc 48, 2) := by decide +kernel
theorem dX1_drawPlace_28 : decode cX1_drawPlace 28 = .ok (.idiv, 1) := by decide +kernel
theorem dX1_drawPlace_29 : decode cX1_drawPlace 29 = .ok (.bipush 64, 2) := by decide +kernel
theorem dX1_drawPlace_31 : decode cX1_drawPlace 31 = .ok (.irem, 1) := by decide +kernel
theorem dX1_drawPlace_32 : decode cX1_drawPlace 32 = .ok (.ireturn, 1) := by decide +kernel
theorem dX1_copyNet_0 : decode cX1_copyNet 0 = .ok (.iconst 0, 1) := by decide +kernel
theorem dX1_copyNet_1 : decode cX1_copyNet 1 = .ok (.istore_n 2, 1) := by decide +kernel
theorem dX1_copyNet_2 : decode cX1_copyNet 2 = .ok (.iload_n 2, 1) := by decide +kernel
theorem dX1_copyNet_3 : decode cX1_copyNet 3 = .ok (.bipush 10, 2) := by decide +kernel
theorem dX1_copyNet_5 : decode cX1_copyNet 5 = .ok (.if_icmp .ge 33, 3) := by decide +kernel
theorem dX1_copyNet_8 : decode cX1_copyNet 8 = .ok (.aload_n 0, 1) := by decide +kernel
theorem dX1_copyNet_9 : decode cX1_copyNet 9 = .ok (.getfield 9, 3) := by decide +kernel
theorem dX1_copyNet_12 : decode cX1_copyNet 12 = .ok (.iload_n 2, 1) := by decide +kernel
theorem dX1_copyNet_13 : decode cX1_copyNet 13 = .ok (.aload_n 1, 1) := by decide +kernel
theorem dX1_copyNet_14 : decode cX1_copyNet 14 = .ok (.getfield 9, 3) := by decide +kernel
theorem dX1_copyNet_17 : decode cX1_copyNet 17 = .ok (.iload_n 2, 1) := by decide +kernel
theorem dX1_copyNet_18 : decode cX1_copyNet 18 = .ok (.iaload, 1) := by decide +kernel
theorem dX1_copyNet_19 : decode cX1_copyNet 19 = .ok (.iastore, 1) := by decide +kernel
theorem dX1_copyNet_20 : decode cX1_copyNet 20 = .ok (.aload_n 0, 1) := by decide +kernel
theorem dX1_copyNet_21 : decode cX1_copyNet 21 = .ok (.getfield 15, 3) := by decide +kernel
theorem dX1_copyNet_24 : decode cX1_copyNet 24 = .ok (.iload_n 2, 1) := by decide +kernel
theorem dX1_copyNet_25 : decode cX1_copyNet 25 = .ok (.aload_n 1, 1) := by decide +kernel
theorem dX1_copyNet_26 : decode cX1_copyNet 26 = .ok (.getfield 15, 3) := by decide +kernel
theorem dX1_copyNet_29 : decode cX1_copyNet 29 = .ok (.iload_n 2, 1) := by decide +kernel
theorem dX1_copyNet_30 : decode cX1_copyNet 30 = .ok (.iaload, 1) := by decide +kernel
theorem dX1_copyNet_31 : decode cX1_copyNet 31 = .ok (.iastore, 1) := by decide +kernel
theorem dX1_copyNet_32 : decode cX1_copyNet 32 = .ok (.iinc 2 1, 3) := by decide +kernel
theorem dX1_copyNet_35 : decode cX1_copyNet 35 = .ok (.goto (-33), 3) := by decide +kernel
theorem dX1_copyNet_38 : decode cX1_copyNet 38 = .ok (.aload_n 0, 1) := by decide +kernel
theorem dX1_copyNet_39 : decode cX1_copyNet 39 = .ok (.aload_n 1, 1) := by decide +kernel
theorem dX1_copyNet_40 : decode cX1_copyNet 40 = .ok (.getfield 18, 3) := by decide +kernel
theorem dX1_copyNet_43 : decode cX1_copyNet 43 = .ok (.putfield 18, 3) := by decide +kernel
theorem dX1_copyNet_46 : decode cX1_copyNet 46 = .ok (.aload_n 0, 1) := by decide +kernel
theorem dX1_copyNet_47 : decode cX1_copyNet 47 = .ok (.aload_n 1, 1) := by decide +kernel
theorem dX1_copyNet_48 : decode cX1_copyNet 48 = .ok (.getfield 22, 3) := by decide +kernel
theorem dX1_copyNet_51 : decode cX1_copyNet 51 = .ok (.putfield 22, 3) := by decide +kernel
theorem dX1_copyNet_54 : decode cX1_copyNet 54 = .ok (.aload_n 0, 1) := by decide +kernel
theorem dX1_copyNet_55 : decode cX1_copyNet 55 = .ok (.aload_n 1, 1) := by decide +kernel
theorem dX1_copyNet_56 : decode cX1_copyNet 56 = .ok (.getfield 25, 3) := by decide +kernel
theorem dX1_copyNet_59 : decode cX1_copyNet 59 = .ok (.putfield 25, 3) := by decide +kernel
theorem dX1_copyNet_62 : decode cX1_copyNet 62 = .ok (.aload_n 0, 1) := by decide +kernel
theorem dX1_copyNet_63 : decode cX1_copyNet 63 = .ok (.aload_n 1, 1) := by decide +kernel
theorem dX1_copyNet_64 : decode cX1_copyNet 64 = .ok (.getfield 28, 3) := by decide +kernel
theorem dX1_copyNet_67 : decode cX1_copyNet 67 = .ok (.putfield 28, 3) := by decide +kernel
theorem dX1_copyNet_70 : decode cX1_copyNet 70 = .ok (.return_, 1) := by decide +kernel
theorem dX2_init_0 : decode cX2_init 0 = .ok (.aload_n 0, 1) := by decide +kernel
theorem dX2_init_1 : decode cX2_init 1 = .ok (.invokespecial 3, 3) := by decide +kernel
theorem dX2_init_4 : decode cX2_init 4 = .ok (.aload_n 0, 1) := by decide +kernel
theorem dX2_init_5 : decode cX2_init 5 = .ok (.aload_n 1, 1) := by decide +kernel
theorem dX2_init_6 : decode cX2_init 6 = .ok (.putfield 9, 3) := by decide +kernel
theorem dX2_init_9 : decode cX2_init 9 = .ok (.aload_n 0, 1) := by decide +kernel
theorem dX2_init_10 : decode cX2_init 10 = .ok (.aload_n 2, 1) := by decide +kernel
theorem dX2_init_11 : decode cX2_init 11 = .ok (.putfield 15, 3) := by decide +kernel
theorem dX2_init_14 : decode cX2_init 14 = .ok (.aload_n 0, 1) := by decide +kernel
theorem dX2_init_15 : decode cX2_init 15 = .ok (.sipush 201, 3) := by decide +kernel
theorem dX2_init_18 : decode cX2_init 18 = .ok (.newarray .int, 2) := by decide +kernel
theorem dX2_init_20 : decode cX2_init 20 = .ok (.putfield 19, 3) := by decide +kernel
theorem dX2_init_23 : decode cX2_init 23 = .ok (.aload_n 0, 1) := by decide +kernel
theorem dX2_init_24 : decode cX2_init 24 = .ok (.bipush 10, 2) := by decide +kernel
theorem dX2_init_26 : decode cX2_init 26 = .ok (.newarray .int, 2) := by decide +kernel
theorem dX2_init_28 : decode cX2_init 28 = .ok (.putfield 23, 3) := by decide +kernel
theorem dX2_init_31 : decode cX2_init 31 = .ok (.return_, 1) := by decide +kernel
set_option maxRecDepth 20000 in
theorem ggX2_walk_X2_standAt : GoodIn wsX2_walk wsX2_standAt := goodIn_r _ [10, 1, 2, 4, 11, 12, 13, 14, 15, 5, 3, 84, 85, 86, 87, 88, 89, 90, 91, 92, 93, 94, 95, 96, 97, 98, 99, 100] (by decide +kernel) (by decide +kernel)
set_option maxRecDepth 20000 in
theorem gX2_walk_X2_standAt : GoodIn wsX2_walk (wsV RX2 26 RX2 yX2_standAt wsX2_standAt) := goodIn_app (goodIn_of _ (by decide +kernel)) ggX2_walk_X2_standAt
set_option maxRecDepth 20000 in
theorem ggX2_walk_X2_goRound : GoodIn wsX2_walk wsX2_goRound := goodIn_r _ [19, 12, 20, 1, 21, 13, 22, 2, 23, 5, 24, 25, 26, 9, 27, 28, 29, 30, 31, 32, 33, 34, 35, 36, 37, 38, 39, 40, 41, 42, 43, 44, 45, 46, 47, 48, 49, 50, 51, 52, 53, 54, 55, 56, 57, 58, 59, 60, 61, 62, 63, 64, 65, 66, 67, 68, 69, 70, 71, 3, 72, 73, 74, 75, 4, 14, 15, 84, 85, 86, 87, 88, 89, 90, 91, 92, 93, 94, 95, 96, 97, 98, 99, 100, 101, 102, 103, 104, 105, 106, 107, 108, 109, 110, 111] (by decide +kernel) (by decide +kernel)
set_option maxRecDepth 20000 in
theorem gX2_walk_X2_goRound : GoodIn wsX2_walk (wsV RX2 47 RX2 yX2_goRound wsX2_goRound) := goodIn_app (goodIn_of _ (by decide +kernel)) ggX2_walk_X2_goRound
set_option maxRecDepth 20000 in
theorem ggX2_walk_X2_goGreedy : GoodIn wsX2_walk wsX2_goGreedy := goodIn_r _ [79, 20, 1, 2, 11, 5, 23, 29, 28, 80, 46, 81, 82, 50, 83, 65, 31, 66, 67, 34, 35, 51, 52, 53, 72, 73, 74, 9, 75, 4, 14, 15, 36, 37, 38, 39, 40, 41, 42, 43, 44, 45, 47, 48, 49, 54, 55, 56, 57, 30, 32, 33, 58, 59, 60, 61, 62, 63, 64, 68, 69, 70, 71, 21, 3, 84, 85, 86, 87, 88, 89, 90, 91, 92, 93, 94, 95, 96, 97, 98, 99, 100, 108, 109, 110, 111, 101, 102, 103, 104, 105, 106, 107] (by decide +kernel) (by decide +kernel)
set_option maxRecDepth 20000 in
theorem gX2_walk_X2_goGreedy : GoodIn wsX2_walk (wsV RX2 50 RX2 yX2_goGreedy wsX2_goGreedy) := goodIn_app (goodIn_of _ (by decide +kernel)) ggX2_walk_X2_goGreedy
theorem dX2_walk_0 : decode cX2_walk 0 = .ok (.aload_n 0, 1) := by decide +kernel
theorem dX2_walk_1 : decode cX2_walk 1 = .ok (.iload_n 1, 1) := by decide +kernel
theorem dX2_walk_2 : decode cX2_walk 2 = .ok (.iload_n 2, 1) := by decide +kernel
theorem dX2_walk_3 : decode cX2_walk 3 = .ok (.invokevirtual 26, 3) := by decide +kernel
theorem dX2_walk_6 : decode cX2_walk 6 = .ok (.iconst 0, 1) := by decide +kernel
theorem dX2_walk_7 : decode cX2_walk 7 = .ok (.istore_n 3, 1) := by decide +kernel
theorem dX2_walk_8 : decode cX2_walk 8 = .ok (.iload_n 3, 1) := by decide +kernel
theorem dX2_walk_9 : decode cX2_walk 9 = .ok (.sipush 10000, 3) := by decide +kernel
theorem dX2_walk_12 : decode cX2_walk 12 = .ok (.if_icmp .ge 63, 3) := by decide +kernel
theorem dX2_walk_15 : decode cX2_walk 15 = .ok (.aload_n 0, 1) := by decide +kernel
theorem dX2_walk_16 : decode cX2_walk 16 = .ok (.getfield 30, 3) := by decide +kernel
theorem dX2_walk_19 : decode cX2_walk 19 = .ok (.aload_n 0, 1) := by decide +kernel
theorem dX2_walk_20 : decode cX2_walk 20 = .ok (.getfield 34, 3) := by decide +kernel
theorem dX2_walk_23 : decode cX2_walk 23 = .ok (.if_icmp .eq 52, 3) := by decide +kernel
theorem dX2_walk_26 : decode cX2_walk 26 = .ok (.aload_n 0, 1) := by decide +kernel
theorem dX2_walk_27 : decode cX2_walk 27 = .ok (.getfield 37, 3) := by decide +kernel
theorem dX2_walk_30 : decode cX2_walk 30 = .ok (.ifCond .ne 45, 3) := by decide +kernel
theorem dX2_walk_33 : decode cX2_walk 33 = .ok (.aload_n 0, 1) := by decide +kernel
theorem dX2_walk_34 : decode cX2_walk 34 = .ok (.getfield 41, 3) := by decide +kernel
theorem dX2_walk_37 : decode cX2_walk 37 = .ok (.sipush 200, 3) := by decide +kernel
theorem dX2_walk_40 : decode cX2_walk 40 = .ok (.if_icmp .lt 11, 3) := by decide +kernel
theorem dX2_walk_43 : decode cX2_walk 43 = .ok (.aload_n 0, 1) := by decide +kernel
theorem dX2_walk_44 : decode cX2_walk 44 = .ok (.iconst 1, 1) := by decide +kernel
theorem dX2_walk_45 : decode cX2_walk 45 = .ok (.putfield 37, 3) := by decide +kernel
theorem dX2_walk_48 : decode cX2_walk 48 = .ok (.goto 21, 3) := by decide +kernel
theorem dX2_walk_51 : decode cX2_walk 51 = .ok (.aload_n 0, 1) := by decide +kernel
theorem dX2_walk_52 : decode cX2_walk 52 = .ok (.getfield 44, 3) := by decide +kernel
theorem dX2_walk_55 : decode cX2_walk 55 = .ok (.ifCond .eq 10, 3) := by decide +kernel
theorem dX2_walk_58 : decode cX2_walk 58 = .ok (.aload_n 0, 1) := by decide +kernel
theorem dX2_walk_59 : decode cX2_walk 59 = .ok (.invokevirtual 47, 3) := by decide +kernel
theorem dX2_walk_62 : decode cX2_walk 62 = .ok (.goto 7, 3) := by decide +kernel
theorem dX2_walk_65 : decode cX2_walk 65 = .ok (.aload_n 0, 1) := by decide +kernel
theorem dX2_walk_66 : decode cX2_walk 66 = .ok (.invokevirtual 50, 3) := by decide +kernel
theorem dX2_walk_69 : decode cX2_walk 69 = .ok (.iinc 3 1, 3) := by decide +kernel
theorem dX2_walk_72 : decode cX2_walk 72 = .ok (.goto (-64), 3) := by decide +kernel
theorem dX2_walk_75 : decode cX2_walk 75 = .ok (.aload_n 0, 1) := by decide +kernel
theorem dX2_walk_76 : decode cX2_walk 76 = .ok (.aload_n 0, 1) := by decide +kernel
theorem dX2_walk_77 : decode cX2_walk 77 = .ok (.getfield 30, 3) := by decide +kernel
theorem dX2_walk_80 : decode cX2_walk 80 = .ok (.aload_n 0, 1) := by decide +kernel
theorem dX2_walk_81 : decode cX2_walk 81 = .ok (.getfield 34, 3) := by decide +kernel
theorem dX2_walk_84 : decode cX2_walk 84 = .ok (.if_icmp .eq 7, 3) := by decide +kernel
theorem dX2_walk_87 : decode cX2_walk 87 = .ok (.iconst 1, 1) := by decide +kernel
theorem dX2_walk_88 : decode cX2_walk 88 = .ok (.goto 4, 3) := by decide +kernel
theorem dX2_walk_91 : decode cX2_walk 91 = .ok (.iconst 0, 1) := by decide +kernel
theorem dX2_walk_92 : decode cX2_walk 92 = .ok (.putfield 37, 3) := by decide +kernel
theorem dX2_walk_95 : decode cX2_walk 95 = .ok (.return_, 1) := by decide +kernel
theorem dX2_standAt_0 : decode cX2_standAt 0 = .ok (.aload_n 0, 1) := by decide +kernel
theorem dX2_standAt_1 : decode cX2_standAt 1 = .ok (.iload_n 1, 1) := by decide +kernel
theorem dX2_standAt_2 : decode cX2_standAt 2 = .ok (.putfield 30, 3) := by decide +kernel
theorem dX2_standAt_5 : decode cX2_standAt 5 = .ok (.aload_n 0, 1) := by decide +kernel
theorem dX2_standAt_6 : decode cX2_standAt 6 = .ok (.iload_n 2, 1) := by decide +kernel
theorem dX2_standAt_7 : decode cX2_standAt 7 = .ok (.putfield 34, 3) := by decide +kernel
theorem dX2_standAt_10 : decode cX2_standAt 10 = .ok (.aload_n 0, 1) := by decide +kernel
theorem dX2_standAt_11 : decode cX2_standAt 11 = .ok (.iconst 0, 1) := by decide +kernel
theorem dX2_standAt_12 : decode cX2_standAt 12 = .ok (.putfield 41, 3) := by decide +kernel
theorem dX2_standAt_15 : decode cX2_standAt 15 = .ok (.aload_n 0, 1) := by decide +kernel
theorem dX2_standAt_16 : decode cX2_standAt 16 = .ok (.iconst 0, 1) := by decide +kernel
theorem dX2_standAt_17 : decode cX2_standAt 17 = .ok (.putfield 53, 3) := by decide +kernel
theorem dX2_standAt_20 : decode cX2_standAt 20 = .ok (.aload_n 0, 1) := by decide +kernel
theorem dX2_standAt_21 : decode cX2_standAt 21 = .ok (.iconst 0, 1) := by decide +kernel
theorem dX2_standAt_22 : decode cX2_standAt 22 = .ok (.putfield 56, 3) := by decide +kernel
theorem dX2_standAt_25 : decode cX2_standAt 25 = .ok (.aload_n 0, 1) := by decide +kernel
theorem dX2_standAt_26 : decode cX2_standAt 26 = .ok (.iconst 0, 1) := by decide +kernel
theorem dX2_standAt_27 : decode cX2_standAt 27 = .ok (.putfield 59, 3) := by decide +kernel
theorem dX2_standAt_30 : decode cX2_standAt 30 = .ok (.aload_n 0, 1) := by decide +kernel
theorem dX2_standAt_31 : decode cX2_standAt 31 = .ok (.iconst 1, 1) := by decide +kernel
theorem dX2_standAt_32 : decode cX2_standAt 32 = .ok (.iload_n 1, 1) := by decide +kernel
theorem dX2_standAt_33 : decode cX2_standAt 33 = .ok (.ishl, 1) := by decide +kernel
theorem dX2_standAt_34 : decode cX2_standAt 34 = .ok (.putfield 62, 3) := by decide +kernel
theorem dX2_standAt_37 : decode cX2_standAt 37 = .ok (.aload_n 0, 1) := by decide +kernel
theorem dX2_standAt_38 : decode cX2_standAt 38 = .ok (.getfield 19, 3) := by decide +kernel
theorem dX2_standAt_41 : decode cX2_standAt 41 = .ok (.iconst 0, 1) := by decide +kernel
theorem dX2_standAt_42 : decode cX2_standAt 42 = .ok (.iload_n 1, 1) := by decide +kernel
theorem dX2_standAt_43 : decode cX2_standAt 43 = .ok (.iastore, 1) := by decide +kernel
theorem dX2_standAt_44 : decode cX2_standAt 44 = .ok (.aload_n 0, 1) := by decide +kernel
theorem dX2_standAt_45 : decode cX2_standAt 45 = .ok (.iconst 0, 1) := by decide +kernel
theorem dX2_standAt_46 : decode cX2_standAt 46 = .ok (.putfield 44, 3) := by decide +kernel
theorem dX2_standAt_49 : decode cX2_standAt 49 = .ok (.aload_n 0, 1) := by decide +kernel
theorem dX2_standAt_50 : decode cX2_standAt 50 = .ok (.iconst 0, 1) := by decide +kernel
theorem dX2_standAt_51 : decode cX2_standAt 51 = .ok (.putfield 37, 3) := by decide +kernel
theorem dX2_standAt_54 : decode cX2_standAt 54 = .ok (.return_, 1) := by decide +kernel
theorem dX2_goTo_0 : decode cX2_goTo 0 = .ok (.aload_n 0, 1) := by decide +kernel
theorem dX2_goTo_1 : decode cX2_goTo 1 = .ok (.dup, 1) := by decide +kernel
theorem dX2_goTo_2 : decode cX2_goTo 2 = .ok (.getfield 41, 3) := by decide +kernel
theorem dX2_goTo_5 : decode cX2_goTo 5 = .ok (.iconst 1, 1) := by decide +kernel
theorem dX2_goTo_6 : decode cX2_goTo 6 = .ok (.iadd, 1) := by decide +kernel
theorem dX2_goTo_7 : decode cX2_goTo 7 = .ok (.putfield 41, 3) := by decide +kernel
theorem dX2_goTo_10 : decode cX2_goTo 10 = .ok (.aload_n 0, 1) := by decide +kernel
theorem dX2_goTo_11 : decode cX2_goTo 11 = .ok (.iload_n 1, 1) := by decide +kernel
theorem dX2_goTo_12 : decode cX2_goTo 12 = .ok (.putfield 30, 3) := by decide +kernel
theorem dX2_goTo_15 : decode cX2_goTo 15 = .ok (.aload_n 0, 1) := by decide +kernel
theorem dX2_goTo_16 : decode cX2_goTo 16 = .ok (.dup, 1) := by decide +kernel
theorem dX2_goTo_17 : decode cX2_goTo 17 = .ok (.getfield 62, 3) := by decide +kernel
theorem dX2_goTo_20 : decode cX2_goTo 20 = .ok (.iconst 1, 1) := by decide +kernel
theorem dX2_goTo_21 : decode cX2_goTo 21 = .ok (.iload_n 1, 1) := by decide +kernel
theorem dX2_goTo_22 : decode cX2_goTo 22 = .ok (.ishl, 1) := by decide +kernel
theorem dX2_goTo_23 : decode cX2_goTo 23 = .ok (.ior, 1) := by decide +kernel
theorem dX2_goTo_24 : decode cX2_goTo 24 = .ok (.putfield 62, 3) := by decide +kernel
theorem dX2_goTo_27 : decode cX2_goTo 27 = .ok (.aload_n 0, 1) := by decide +kernel
theorem dX2_goTo_28 : decode cX2_goTo 28 = .ok (.getfield 41, 3) := by decide +kernel
theorem dX2_goTo_31 : decode cX2_goTo 31 = .ok (.sipush 200, 3) := by decide +kernel
theorem dX2_goTo_34 : decode cX2_goTo 34 = .ok (.if_icmp .gt 13, 3) := by decide +kernel
theorem dX2_goTo_37 : decode cX2_goTo 37 = .ok (.aload_n 0, 1) := by decide +kernel
theorem dX2_goTo_38 : decode cX2_goTo 38 = .ok (.getfield 19, 3) := by decide +kernel
theorem dX2_goTo_41 : decode cX2_goTo 41 = .ok (.aload_n 0, 1) := by decide +kernel
theorem dX2_goTo_42 : decode cX2_goTo 42 = .ok (.getfield 41, 3) := by decide +kernel
theorem dX2_goTo_45 : decode cX2_goTo 45 = .ok (.iload_n 1, 1) := by decide +kernel
theorem dX2_goTo_46 : decode cX2_goTo 46 = .ok (.iastore, 1) := by decide +kernel
theorem dX2_goTo_47 : decode cX2_goTo 47 = .ok (.return_, 1) := by decide +kernel
set_option maxRecDepth 20000 in
theorem ggX2_goGreedy_X3_nearerThan : GoodIn wsX2_goGreedy wsX3_nearerThan := goodIn_r _ [12, 13, 14, 15, 16, 17, 18, 19, 20, 21, 22, 23, 82, 83, 84, 85, 86, 87, 88, 89, 90, 91, 92] (by decide +kernel) (by decide +kernel)
set_option maxRecDepth 20000 in
theorem gX2_goGreedy_X3_nearerThan_n65 : GoodIn wsX2_goGreedy (wsX3_nearerThan) := ggX2_goGreedy_X3_nearerThan
set_option maxRecDepth 20000 in
theorem ggX2_goGreedy_X2_goTo : GoodIn wsX2_goGreedy wsX2_goTo := goodIn_r _ [28, 29, 2, 30, 31, 65, 66, 67, 68, 69, 70, 71, 72, 73, 74, 75, 76, 77, 78, 79, 80, 81] (by decide +kernel) (by decide +kernel)
set_option maxRecDepth 20000 in
theorem gX2_goGreedy_X2_goTo : GoodIn wsX2_goGreedy (wsV RX2 71 RX2 yX2_goTo wsX2_goTo) := goodIn_app (goodIn_of _ (by decide +kernel)) ggX2_goGreedy_X2_goTo
set_option maxRecDepth 20000 in
theorem ggX2_goGreedy_X2_forgetSeen : GoodIn wsX2_goGreedy wsX2_forgetSeen := goodIn_r _ [35, 36, 37, 38, 39, 40, 65, 66, 67, 68, 69, 70, 71, 72, 73, 74, 75, 76, 77, 78, 79, 80, 81] (by decide +kernel) (by decide +kernel)
set_option maxRecDepth 20000 in
theorem gX2_goGreedy_X2_forgetSeen : GoodIn wsX2_goGreedy (wsV RX2 84 RX2 yX2_forgetSeen wsX2_forgetSeen) := goodIn_app (goodIn_of _ (by decide +kernel)) ggX2_goGreedy_X2_forgetSeen
set_option maxRecDepth 20000 in
theorem ggX2_goGreedy_X3_turnFrom : GoodIn wsX2_goGreedy wsX3_turnFrom := goodIn_r _ [43, 44, 13, 21, 22, 23, 45, 46, 47, 10, 48, 49, 16, 50, 51, 19, 20, 52, 53, 54, 55, 56, 57, 58, 15, 17, 18, 82, 83, 84, 85, 86, 87, 88, 89, 90, 91, 92] (by decide +kernel) (by decide +kernel)
set_option maxRecDepth 20000 in
theorem gX2_goGreedy_X3_turnFrom_n87 : GoodIn wsX2_goGreedy (wsX3_turnFrom) := ggX2_goGreedy_X3_turnFrom
set_option maxRecDepth 20000 in
theorem ggX2_goGreedy_X2_turnTo : GoodIn wsX2_goGreedy wsX2_turnTo := goodIn_r _ [62, 63, 36, 2, 64, 21, 22, 23, 65, 66, 67, 68, 69, 70, 71, 72, 73, 74, 75, 76, 77, 78, 79, 80, 81] (by decide +kernel) (by decide +kernel)
set_option maxRecDepth 20000 in
theorem gX2_goGreedy_X2_turnTo : GoodIn wsX2_goGreedy (wsV RX2 90 RX2 yX2_turnTo wsX2_turnTo) := goodIn_app (goodIn_of _ (by decide +kernel)) ggX2_goGreedy_X2_turnTo
theorem dX2_goGreedy_0 : decode cX2_goGreedy 0 = .ok (.aload_n 0, 1) := by decide +kernel
theorem dX2_goGreedy_1 : decode cX2_goGreedy 1 = .ok (.getfield 15, 3) := by decide +kernel
theorem dX2_goGreedy_4 : decode cX2_goGreedy 4 = .ok (.aload_n 0, 1) := by decide +kernel
theorem dX2_goGreedy_5 : decode cX2_goGreedy 5 = .ok (.getfield 30, 3) := by decide +kernel
theorem dX2_goGreedy_8 : decode cX2_goGreedy 8 = .ok (.aload_n 0, 1) := by decide +kernel
theorem dX2_goGreedy_9 : decode cX2_goGreedy 9 = .ok (.getfield 34, 3) := by decide +kernel
theorem dX2_goGreedy_12 : decode cX2_goGreedy 12 = .ok (.invokevirtual 65, 3) := by decide +kernel
theorem dX2_goGreedy_15 : decode cX2_goGreedy 15 = .ok (.istore_n 1, 1) := by decide +kernel
theorem dX2_goGreedy_16 : decode cX2_goGreedy 16 = .ok (.iload_n 1, 1) := by decide +kernel
theorem dX2_goGreedy_17 : decode cX2_goGreedy 17 = .ok (.iconst (-1), 1) := by decide +kernel
theorem dX2_goGreedy_18 : decode cX2_goGreedy 18 = .ok (.if_icmp .eq 9, 3) := by decide +kernel
theorem dX2_goGreedy_21 : decode cX2_goGreedy 21 = .ok (.aload_n 0, 1) := by decide +kernel
theorem dX2_goGreedy_22 : decode cX2_goGreedy 22 = .ok (.iload_n 1, 1) := by decide +kernel
theorem dX2_goGreedy_23 : decode cX2_goGreedy 23 = .ok (.invokevirtual 71, 3) := by decide +kernel
theorem dX2_goGreedy_26 : decode cX2_goGreedy 26 = .ok (.return_, 1) := by decide +kernel
theorem dX2_goGreedy_27 : decode cX2_goGreedy 27 = .ok (.aload_n 0, 1) := by decide +kernel
theorem dX2_goGreedy_28 : decode cX2_goGreedy 28 = .ok (.dup, 1) := by decide +kernel
theorem dX2_goGreedy_29 : decode cX2_goGreedy 29 = .ok (.getfield 53, 3) := by decide +kernel
theorem dX2_goGreedy_32 : decode cX2_goGreedy 32 = .ok (.iconst 1, 1) := by decide +kernel
theorem dX2_goGreedy_33 : decode cX2_goGreedy 33 = .ok (.iadd, 1) := by decide +kernel
theorem dX2_goGreedy_34 : decode cX2_goGreedy 34 = .ok (.putfield 53, 3) := by decide +kernel
theorem dX2_goGreedy_37 : decode cX2_goGreedy 37 = .ok (.aload_n 0, 1) := by decide +kernel
theorem dX2_goGreedy_38 : decode cX2_goGreedy 38 = .ok (.iconst 1, 1) := by decide +kernel
theorem dX2_goGreedy_39 : decode cX2_goGreedy 39 = .ok (.putfield 44, 3) := by decide +kernel
theorem dX2_goGreedy_42 : decode cX2_goGreedy 42 = .ok (.aload_n 0, 1) := by decide +kernel
theorem dX2_goGreedy_43 : decode cX2_goGreedy 43 = .ok (.aload_n 0, 1) := by decide +kernel
theorem dX2_goGreedy_44 : decode cX2_goGreedy 44 = .ok (.getfield 30, 3) := by decide +kernel
theorem dX2_goGreedy_47 : decode cX2_goGreedy 47 = .ok (.putfield 75, 3) := by decide +kernel
theorem dX2_goGreedy_50 : decode cX2_goGreedy 50 = .ok (.aload_n 0, 1) := by decide +kernel
theorem dX2_goGreedy_51 : decode cX2_goGreedy 51 = .ok (.iconst 0, 1) := by decide +kernel
theorem dX2_goGreedy_52 : decode cX2_goGreedy 52 = .ok (.putfield 78, 3) := by decide +kernel
theorem dX2_goGreedy_55 : decode cX2_goGreedy 55 = .ok (.aload_n 0, 1) := by decide +kernel
theorem dX2_goGreedy_56 : decode cX2_goGreedy 56 = .ok (.iconst 1, 1) := by decide +kernel
theorem dX2_goGreedy_57 : decode cX2_goGreedy 57 = .ok (.putfield 81, 3) := by decide +kernel
theorem dX2_goGreedy_60 : decode cX2_goGreedy 60 = .ok (.aload_n 0, 1) := by decide +kernel
theorem dX2_goGreedy_61 : decode cX2_goGreedy 61 = .ok (.invokevirtual 84, 3) := by decide +kernel
theorem dX2_goGreedy_64 : decode cX2_goGreedy 64 = .ok (.aload_n 0, 1) := by decide +kernel
theorem dX2_goGreedy_65 : decode cX2_goGreedy 65 = .ok (.aload_n 0, 1) := by decide +kernel
theorem dX2_goGreedy_66 : decode cX2_goGreedy 66 = .ok (.getfield 15, 3) := by decide +kernel
theorem dX2_goGreedy_69 : decode cX2_goGreedy 69 = .ok (.aload_n 0, 1) := by decide +kernel
theorem dX2_goGreedy_70 : decode cX2_goGreedy 70 = .ok (.getfield 30, 3) := by decide +kernel
theorem dX2_goGreedy_73 : decode cX2_goGreedy 73 = .ok (.aload_n 0, 1) := by decide +kernel
theorem dX2_goGreedy_74 : decode cX2_goGreedy 74 = .ok (.getfield 34, 3) := by decide +kernel
theorem dX2_goGreedy_77 : decode cX2_goGreedy 77 = .ok (.invokevirtual 87, 3) := by decide +kernel
theorem dX2_goGreedy_80 : decode cX2_goGreedy 80 = .ok (.invokevirtual 90, 3) := by decide +kernel
theorem dX2_goGreedy_83 : decode cX2_goGreedy 83 = .ok (.return_, 1) := by decide +kernel
set_option maxRecDepth 20000 in
theorem ggX2_goRound_X2_takesGreaterShare : GoodIn wsX2_goRound wsX2_takesGreaterShare := goodIn_r _ [14, 6, 8, 7, 3, 4, 15, 16, 17, 18, 19, 20, 21, 22, 67, 68, 69, 70, 71, 72, 73, 74, 75, 76, 77, 78, 79, 80, 81, 82, 83, 84, 85, 86, 87, 88, 89, 90] (by decide +kernel) (by decide +kernel)
set_option maxRecDepth 20000 in
theorem gX2_goRound_X2_takesGreaterShare : GoodIn wsX2_goRound (wsV RX2 93 RX2 yX2_takesGreaterShare wsX2_takesGreaterShare) := goodIn_app (goodIn_of _ (by decide +kernel)) ggX2_goRound_X2_takesGreaterShare
set_option maxRecDepth 20000 in
theorem ggX2_goRound_X2_forgetSeen : GoodIn wsX2_goRound wsX2_forgetSeen := goodIn_r _ [26, 27, 28, 29, 30, 31, 67, 68, 69, 70, 71, 72, 73, 74, 75, 76, 77, 78, 79, 80, 81, 82, 83] (by decide +kernel) (by decide +kernel)
set_option maxRecDepth 20000 in
theorem gX2_goRound_X2_forgetSeen : GoodIn wsX2_goRound (wsV RX2 84 RX2 yX2_forgetSeen wsX2_forgetSeen) := goodIn_app (goodIn_of _ (by decide +kernel)) ggX2_goRound_X2_forgetSeen
set_option maxRecDepth 20000 in
theorem ggX2_goRound_X3_turnFrom : GoodIn wsX2_goRound wsX3_turnFrom := goodIn_r _ [35, 36, 37, 38, 39, 40, 41, 42, 43, 33, 44, 17, 18, 19, 20, 21, 22, 45, 46, 47, 48, 49, 50, 51, 52, 53, 54, 91, 92, 93, 94, 84, 85, 86, 87, 88, 89, 90] (by decide +kernel) (by decide +kernel)
set_option maxRecDepth 20000 in
theorem gX2_goRound_X3_turnFrom_n87 : GoodIn wsX2_goRound (wsX3_turnFrom) := ggX2_goRound_X3_turnFrom
set_option maxRecDepth 20000 in
theorem ggX2_goRound_X2_turnTo : GoodIn wsX2_goRound wsX2_turnTo := goodIn_r _ [58, 4, 27, 3, 59, 38, 39, 40, 67, 68, 69, 70, 71, 72, 73, 74, 75, 76, 77, 78, 79, 80, 81, 82, 83] (by decide +kernel) (by decide +kernel)
set_option maxRecDepth 20000 in
theorem gX2_goRound_X2_turnTo : GoodIn wsX2_goRound (wsV RX2 90 RX2 yX2_turnTo wsX2_turnTo) := goodIn_app (goodIn_of _ (by decide +kernel)) ggX2_goRound_X2_turnTo
set_option maxRecDepth 20000 in
theorem ggX2_goRound_X2_goTo : GoodIn wsX2_goRound wsX2_goTo := goodIn_r _ [63, 64, 3, 65, 66, 67, 68, 69, 70, 71, 72, 73, 74, 75, 76, 77, 78, 79, 80, 81, 82, 83] (by decide +kernel) (by decide +kernel)
set_option maxRecDepth 20000 in
theorem gX2_goRound_X2_goTo : GoodIn wsX2_goRound (wsV RX2 71 RX2 yX2_goTo wsX2_goTo) := goodIn_app (goodIn_of _ (by decide +kernel)) ggX2_goRound_X2_goTo
set_option maxRecDepth 20000 in
theorem ggX2_goRound_X1_apart : GoodIn wsX2_goRound wsX1_apart := goodIn_r _ [54, 21, 22, 84, 85, 86, 87, 88, 89, 90] (by decide +kernel) (by decide +kernel)
set_option maxRecDepth 20000 in
theorem gX2_goRound_X1_apart_n100 : GoodIn wsX2_goRound (wsX1_apart) := ggX2_goRound_X1_apart
theorem dX2_goRound_0 : decode cX2_goRound 0 = .ok (.aload_n 0, 1) := by decide +kernel
theorem dX2_goRound_1 : decode cX2_goRound 1 = .ok (.invokevirtual 93, 3) := by decide +kernel
theorem dX2_goRound_4 : decode cX2_goRound 4 = .ok (.ifCond .eq 37, 3) := by decide +kernel
theorem dX2_goRound_7 : decode cX2_goRound 7 = .ok (.aload_n 0, 1) := by decide +kernel
theorem dX2_goRound_8 : decode cX2_goRound 8 = .ok (.dup, 1) := by decide +kernel
theorem dX2_goRound_9 : decode cX2_goRound 9 = .ok (.getfield 56, 3) := by decide +kernel
theorem dX2_goRound_12 : decode cX2_goRound 12 = .ok (.iconst 1, 1) := by decide +kernel
theorem dX2_goRound_13 : decode cX2_goRound 13 = .ok (.iadd, 1) := by decide +kernel
theorem dX2_goRound_14 : decode cX2_goRound 14 = .ok (.putfield 56, 3) := by decide +kernel
theorem dX2_goRound_17 : decode cX2_goRound 17 = .ok (.aload_n 0, 1) := by decide +kernel
theorem dX2_goRound_18 : decode cX2_goRound 18 = .ok (.invokevirtual 84, 3) := by decide +kernel
theorem dX2_goRound_21 : decode cX2_goRound 21 = .ok (.aload_n 0, 1) := by decide +kernel
theorem dX2_goRound_22 : decode cX2_goRound 22 = .ok (.aload_n 0, 1) := by decide +kernel
theorem dX2_goRound_23 : decode cX2_goRound 23 = .ok (.getfield 15, 3) := by decide +kernel
theorem dX2_goRound_26 : decode cX2_goRound 26 = .ok (.aload_n 0, 1) := by decide +kernel
theorem dX2_goRound_27 : decode cX2_goRound 27 = .ok (.getfield 30, 3) := by decide +kernel
theorem dX2_goRound_30 : decode cX2_goRound 30 = .ok (.aload_n 0, 1) := by decide +kernel
theorem dX2_goRound_31 : decode cX2_goRound 31 = .ok (.getfield 97, 3) := by decide +kernel
theorem dX2_goRound_34 : decode cX2_goRound 34 = .ok (.invokevirtual 87, 3) := by decide +kernel
theorem dX2_goRound_37 : decode cX2_goRound 37 = .ok (.invokevirtual 90, 3) := by decide +kernel
theorem dX2_goRound_40 : decode cX2_goRound 40 = .ok (.return_, 1) := by decide +kernel
theorem dX2_goRound_41 : decode cX2_goRound 41 = .ok (.aload_n 0, 1) := by decide +kernel
theorem dX2_goRound_42 : decode cX2_goRound 42 = .ok (.getfield 30, 3) := by decide +kernel
theorem dX2_goRound_45 : decode cX2_goRound 45 = .ok (.istore_n 1, 1) := by decide +kernel
theorem dX2_goRound_46 : decode cX2_goRound 46 = .ok (.aload_n 0, 1) := by decide +kernel
theorem dX2_goRound_47 : decode cX2_goRound 47 = .ok (.aload_n 0, 1) := by decide +kernel
theorem dX2_goRound_48 : decode cX2_goRound 48 = .ok (.getfield 97, 3) := by decide +kernel
theorem dX2_goRound_51 : decode cX2_goRound 51 = .ok (.invokevirtual 71, 3) := by decide +kernel
theorem dX2_goRound_54 : decode cX2_goRound 54 = .ok (.aload_n 0, 1) := by decide +kernel
theorem dX2_goRound_55 : decode cX2_goRound 55 = .ok (.dup, 1) := by decide +kernel
theorem dX2_goRound_56 : decode cX2_goRound 56 = .ok (.getfield 59, 3) := by decide +kernel
theorem dX2_goRound_59 : decode cX2_goRound 59 = .ok (.iconst 1, 1) := by decide +kernel
theorem dX2_goRound_60 : decode cX2_goRound 60 = .ok (.iadd, 1) := by decide +kernel
theorem dX2_goRound_61 : decode cX2_goRound 61 = .ok (.putfield 59, 3) := by decide +kernel
theorem dX2_goRound_64 : decode cX2_goRound 64 = .ok (.aload_n 0, 1) := by decide +kernel
theorem dX2_goRound_65 : decode cX2_goRound 65 = .ok (.getfield 9, 3) := by decide +kernel
theorem dX2_goRound_68 : decode cX2_goRound 68 = .ok (.aload_n 0, 1) := by decide +kernel
theorem dX2_goRound_69 : decode cX2_goRound 69 = .ok (.getfield 30, 3) := by decide +kernel
theorem dX2_goRound_72 : decode cX2_goRound 72 = .ok (.aload_n 0, 1) := by decide +kernel
theorem dX2_goRound_73 : decode cX2_goRound 73 = .ok (.getfield 34, 3) := by decide +kernel
theorem dX2_goRound_76 : decode cX2_goRound 76 = .ok (.invokevirtual 100, 3) := by decide +kernel
theorem dX2_goRound_79 : decode cX2_goRound 79 = .ok (.aload_n 0, 1) := by decide +kernel
theorem dX2_goRound_80 : decode cX2_goRound 80 = .ok (.getfield 9, 3) := by decide +kernel
theorem dX2_goRound_83 : decode cX2_goRound 83 = .ok (.aload_n 0, 1) := by decide +kernel
theorem dX2_goRound_84 : decode cX2_goRound 84 = .ok (.getfield 75, 3) := by decide +kernel
theorem dX2_goRound_87 : decode cX2_goRound 87 = .ok (.aload_n 0, 1) := by decide +kernel
theorem dX2_goRound_88 : decode cX2_goRound 88 = .ok (.getfield 34, 3) := by decide +kernel
theorem dX2_goRound_91 : decode cX2_goRound 91 = .ok (.invokevirtual 100, 3) := by decide +kernel
theorem dX2_goRound_94 : decode cX2_goRound 94 = .ok (.if_icmp .ge 11, 3) := by decide +kernel
theorem dX2_goRound_97 : decode cX2_goRound 97 = .ok (.aload_n 0, 1) := by decide +kernel
theorem dX2_goRound_98 : decode cX2_goRound 98 = .ok (.iconst 0, 1) := by decide +kernel
theorem dX2_goRound_99 : decode cX2_goRound 99 = .ok (.putfield 44, 3) := by decide +kernel
theorem dX2_goRound_102 : decode cX2_goRound 102 = .ok (.goto 19, 3) := by decide +kernel
theorem dX2_goRound_105 : decode cX2_goRound 105 = .ok (.aload_n 0, 1) := by decide +kernel
theorem dX2_goRound_106 : decode cX2_goRound 106 = .ok (.aload_n 0, 1) := by decide +kernel
theorem dX2_goRound_107 : decode cX2_goRound 107 = .ok (.getfield 15, 3) := by decide +kernel
theorem dX2_goRound_110 : decode cX2_goRound 110 = .ok (.aload_n 0, 1) := by decide +kernel
theorem dX2_goRound_111 : decode cX2_goRound 111 = .ok (.getfield 30, 3) := by decide +kernel
theorem dX2_goRound_114 : decode cX2_goRound 114 = .ok (.iload_n 1, 1) := by decide +kernel
theorem dX2_goRound_115 : decode cX2_goRound 115 = .ok (.invokevirtual 87, 3) := by decide +kernel
theorem dX2_goRound_118 : decode cX2_goRound 118 = .ok (.invokevirtual 90, 3) := by decide +kernel
theorem dX2_goRound_121 : decode cX2_goRound 121 = .ok (.return_, 1) := by decide +kernel
set_option maxRecDepth 20000 in
theorem ggX2_forgetSeen_J7_fill_53178 : GoodIn wsX2_forgetSeen wsJ7_fill_53178 := goodIn_r _ [5] (by decide +kernel) (by decide +kernel)
set_option maxRecDepth 20000 in
theorem gX2_forgetSeen_J7_fill_53178 : GoodIn wsX2_forgetSeen (va_wsS RX2 105 yJ7_fill_53178 wsJ7_fill_53178) := goodIn_app (goodIn_of _ (by decide +kernel)) ggX2_forgetSeen_J7_fill_53178
theorem dX2_forgetSeen_0 : decode cX2_forgetSeen 0 = .ok (.aload_n 0, 1) := by decide +kernel
theorem dX2_forgetSeen_1 : decode cX2_forgetSeen 1 = .ok (.getfield 23, 3) := by decide +kernel
theorem dX2_forgetSeen_4 : decode cX2_forgetSeen 4 = .ok (.iconst 0, 1) := by decide +kernel
theorem dX2_forgetSeen_5 : decode cX2_forgetSeen 5 = .ok (.invokestatic 105, 3) := by decide +kernel
theorem dX2_forgetSeen_8 : decode cX2_forgetSeen 8 = .ok (.return_, 1) := by decide +kernel
set_option maxRecDepth 20000 in
theorem ggX2_turnTo_X5_holds : GoodIn wsX2_turnTo wsX5_holds := goodIn_r _ [7] (by decide +kernel) (by decide +kernel)
set_option maxRecDepth 20000 in
theorem gX2_turnTo_X5_holds_n111 : GoodIn wsX2_turnTo (wsX5_holds) := ggX2_turnTo_X5_holds
theorem dX2_turnTo_0 : decode cX2_turnTo 0 = .ok (.aload_n 0, 1) := by decide +kernel
theorem dX2_turnTo_1 : decode cX2_turnTo 1 = .ok (.iload_n 1, 1) := by decide +kernel
theorem dX2_turnTo_2 : decode cX2_turnTo 2 = .ok (.putfield 97, 3) := by decide +kernel
theorem dX2_turnTo_5 : decode cX2_turnTo 5 = .ok (.iload_n 1, 1) := by decide +kernel
theorem dX2_turnTo_6 : decode cX2_turnTo 6 = .ok (.iconst (-1), 1) := by decide +kernel
theorem dX2_turnTo_7 : decode cX2_turnTo 7 = .ok (.if_icmp .eq 19, 3) := by decide +kernel
theorem dX2_turnTo_10 : decode cX2_turnTo 10 = .ok (.aload_n 0, 1) := by decide +kernel
theorem dX2_turnTo_11 : decode cX2_turnTo 11 = .ok (.getfield 23, 3) := by decide +kernel
theorem dX2_turnTo_14 : decode cX2_turnTo 14 = .ok (.aload_n 0, 1) := by decide +kernel
theorem dX2_turnTo_15 : decode cX2_turnTo 15 = .ok (.getfield 30, 3) := by decide +kernel
theorem dX2_turnTo_18 : decode cX2_turnTo 18 = .ok (.iaload, 1) := by decide +kernel
theorem dX2_turnTo_19 : decode cX2_turnTo 19 = .ok (.iload_n 1, 1) := by decide +kernel
theorem dX2_turnTo_20 : decode cX2_turnTo 20 = .ok (.invokestatic 111, 3) := by decide +kernel
theorem dX2_turnTo_23 : decode cX2_turnTo 23 = .ok (.ifCond .eq 11, 3) := by decide +kernel
theorem dX2_turnTo_26 : decode cX2_turnTo 26 = .ok (.aload_n 0, 1) := by decide +kernel
theorem dX2_turnTo_27 : decode cX2_turnTo 27 = .ok (.iconst 1, 1) := by decide +kernel
theorem dX2_turnTo_28 : decode cX2_turnTo 28 = .ok (.putfield 37, 3) := by decide +kernel
theorem dX2_turnTo_31 : decode cX2_turnTo 31 = .ok (.goto 18, 3) := by decide +kernel
theorem dX2_turnTo_34 : decode cX2_turnTo 34 = .ok (.aload_n 0, 1) := by decide +kernel
theorem dX2_turnTo_35 : decode cX2_turnTo 35 = .ok (.getfield 23, 3) := by decide +kernel
theorem dX2_turnTo_38 : decode cX2_turnTo 38 = .ok (.aload_n 0, 1) := by decide +kernel
theorem dX2_turnTo_39 : decode cX2_turnTo 39 = .ok (.getfield 30, 3) := by decide +kernel
theorem dX2_turnTo_42 : decode cX2_turnTo 42 = .ok (.dup2, 1) := by decide +kernel
theorem dX2_turnTo_43 : decode cX2_turnTo 43 = .ok (.iaload, 1) := by decide +kernel
theorem dX2_turnTo_44 : decode cX2_turnTo 44 = .ok (.iconst 1, 1) := by decide +kernel
theorem dX2_turnTo_45 : decode cX2_turnTo 45 = .ok (.iload_n 1, 1) := by decide +kernel
theorem dX2_turnTo_46 : decode cX2_turnTo 46 = .ok (.ishl, 1) := by decide +kernel
theorem dX2_turnTo_47 : decode cX2_turnTo 47 = .ok (.ior, 1) := by decide +kernel
theorem dX2_turnTo_48 : decode cX2_turnTo 48 = .ok (.iastore, 1) := by decide +kernel
theorem dX2_turnTo_49 : decode cX2_turnTo 49 = .ok (.return_, 1) := by decide +kernel
set_option maxRecDepth 20000 in
theorem ggX2_takesGreaterShare_X1_sideOf : GoodIn wsX2_takesGreaterShare wsX1_sideOf := goodIn_r _ [11, 12, 13, 31, 32, 33, 34, 35, 36, 37] (by decide +kernel) (by decide +kernel)
set_option maxRecDepth 20000 in
theorem gX2_takesGreaterShare_X1_sideOf_n115 : GoodIn wsX2_takesGreaterShare (wsX1_sideOf) := ggX2_takesGreaterShare_X1_sideOf
theorem dX2_takesGreaterShare_0 : decode cX2_takesGreaterShare 0 = .ok (.aload_n 0, 1) := by decide +kernel
theorem dX2_takesGreaterShare_1 : decode cX2_takesGreaterShare 1 = .ok (.getfield 9, 3) := by decide +kernel
theorem dX2_takesGreaterShare_4 : decode cX2_takesGreaterShare 4 = .ok (.aload_n 0, 1) := by decide +kernel
theorem dX2_takesGreaterShare_5 : decode cX2_takesGreaterShare 5 = .ok (.getfield 75, 3) := by decide +kernel
theorem dX2_takesGreaterShare_8 : decode cX2_takesGreaterShare 8 = .ok (.aload_n 0, 1) := by decide +kernel
theorem dX2_takesGreaterShare_9 : decode cX2_takesGreaterShare 9 = .ok (.getfield 34, 3) := by decide +kernel
theorem dX2_takesGreaterShare_12 : decode cX2_takesGreaterShare 12 = .ok (.aload_n 0, 1) := by decide +kernel
theorem dX2_takesGreaterShare_13 : decode cX2_takesGreaterShare 13 = .ok (.getfield 30, 3) := by decide +kernel
theorem dX2_takesGreaterShare_16 : decode cX2_takesGreaterShare 16 = .ok (.invokevirtual 115, 3) := by decide +kernel
theorem dX2_takesGreaterShare_19 : decode cX2_takesGreaterShare 19 = .ok (.istore_n 1, 1) := by decide +kernel
theorem dX2_takesGreaterShare_20 : decode cX2_takesGreaterShare 20 = .ok (.aload_n 0, 1) := by decide +kernel
theorem dX2_takesGreaterShare_21 : decode cX2_takesGreaterShare 21 = .ok (.getfield 9, 3) := by decide +kernel
theorem dX2_takesGreaterShare_24 : decode cX2_takesGreaterShare 24 = .ok (.aload_n 0, 1) := by decide +kernel
theorem dX2_takesGreaterShare_25 : decode cX2_takesGreaterShare 25 = .ok (.getfield 75, 3) := by decide +kernel
theorem dX2_takesGreaterShare_28 : decode cX2_takesGreaterShare 28 = .ok (.aload_n 0, 1) := by decide +kernel
theorem dX2_takesGreaterShare_29 : decode cX2_takesGreaterShare 29 = .ok (.getfield 34, 3) := by decide +kernel
theorem dX2_takesGreaterShare_32 : decode cX2_takesGreaterShare 32 = .ok (.aload_n 0, 1) := by decide +kernel
theorem dX2_takesGreaterShare_33 : decode cX2_takesGreaterShare 33 = .ok (.getfield 97, 3) := by decide +kernel
theorem dX2_takesGreaterShare_36 : decode cX2_takesGreaterShare 36 = .ok (.invokevirtual 115, 3) := by decide +kernel
theorem dX2_takesGreaterShare_39 : decode cX2_takesGreaterShare 39 = .ok (.istore_n 2, 1) := by decide +kernel
theorem dX2_takesGreaterShare_40 : decode cX2_takesGreaterShare 40 = .ok (.iload_n 1, 1) := by decide +kernel
theorem dX2_takesGreaterShare_41 : decode cX2_takesGreaterShare 41 = .ok (.ifCond .lt 7, 3) := by decide +kernel
theorem dX2_takesGreaterShare_44 : decode cX2_takesGreaterShare 44 = .ok (.iconst 1, 1) := by decide +kernel
theorem dX2_takesGreaterShare_45 : decode cX2_takesGreaterShare 45 = .ok (.goto 4, 3) := by decide +kernel
theorem dX2_takesGreaterShare_48 : decode cX2_takesGreaterShare 48 = .ok (.iconst 0, 1) := by decide +kernel
theorem dX2_takesGreaterShare_49 : decode cX2_takesGreaterShare 49 = .ok (.iload_n 2, 1) := by decide +kernel
theorem dX2_takesGreaterShare_50 : decode cX2_takesGreaterShare 50 = .ok (.ifCond .lt 7, 3) := by decide +kernel
theorem dX2_takesGreaterShare_53 : decode cX2_takesGreaterShare 53 = .ok (.iconst 1, 1) := by decide +kernel
theorem dX2_takesGreaterShare_54 : decode cX2_takesGreaterShare 54 = .ok (.goto 4, 3) := by decide +kernel
theorem dX2_takesGreaterShare_57 : decode cX2_takesGreaterShare 57 = .ok (.iconst 0, 1) := by decide +kernel
theorem dX2_takesGreaterShare_58 : decode cX2_takesGreaterShare 58 = .ok (.if_icmp .ne 5, 3) := by decide +kernel
theorem dX2_takesGreaterShare_61 : decode cX2_takesGreaterShare 61 = .ok (.iconst 0, 1) := by decide +kernel
theorem dX2_takesGreaterShare_62 : decode cX2_takesGreaterShare 62 = .ok (.ireturn, 1) := by decide +kernel
theorem dX2_takesGreaterShare_63 : decode cX2_takesGreaterShare 63 = .ok (.aload_n 0, 1) := by decide +kernel
theorem dX2_takesGreaterShare_64 : decode cX2_takesGreaterShare 64 = .ok (.getfield 9, 3) := by decide +kernel
theorem dX2_takesGreaterShare_67 : decode cX2_takesGreaterShare 67 = .ok (.getfield 119, 3) := by decide +kernel
theorem dX2_takesGreaterShare_70 : decode cX2_takesGreaterShare 70 = .ok (.aload_n 0, 1) := by decide +kernel
theorem dX2_takesGreaterShare_71 : decode cX2_takesGreaterShare 71 = .ok (.getfield 97, 3) := by decide +kernel
theorem dX2_takesGreaterShare_74 : decode cX2_takesGreaterShare 74 = .ok (.iaload, 1) := by decide +kernel
theorem dX2_takesGreaterShare_75 : decode cX2_takesGreaterShare 75 = .ok (.aload_n 0, 1) := by decide +kernel
theorem dX2_takesGreaterShare_76 : decode cX2_takesGreaterShare 76 = .ok (.getfield 9, 3) := by decide +kernel
theorem dX2_takesGreaterShare_79 : decode cX2_takesGreaterShare 79 = .ok (.getfield 119, 3) := by decide +kernel
theorem dX2_takesGreaterShare_82 : decode cX2_takesGreaterShare 82 = .ok (.aload_n 0, 1) := by decide +kernel
theorem dX2_takesGreaterShare_83 : decode cX2_takesGreaterShare 83 = .ok (.getfield 30, 3) := by decide +kernel
theorem dX2_takesGreaterShare_86 : decode cX2_takesGreaterShare 86 = .ok (.iaload, 1) := by decide +kernel
theorem dX2_takesGreaterShare_87 : decode cX2_takesGreaterShare 87 = .ok (.isub, 1) := by decide +kernel
theorem dX2_takesGreaterShare_88 : decode cX2_takesGreaterShare 88 = .ok (.istore_n 3, 1) := by decide +kernel
theorem dX2_takesGreaterShare_89 : decode cX2_takesGreaterShare 89 = .ok (.aload_n 0, 1) := by decide +kernel
theorem dX2_takesGreaterShare_90 : decode cX2_takesGreaterShare 90 = .ok (.getfield 9, 3) := by decide +kernel
theorem dX2_takesGreaterShare_93 : decode cX2_takesGreaterShare 93 = .ok (.getfield 122, 3) := by decide +kernel
theorem dX2_takesGreaterShare_96 : decode cX2_takesGreaterShare 96 = .ok (.aload_n 0, 1) := by decide +kernel
theorem dX2_takesGreaterShare_97 : decode cX2_takesGreaterShare 97 = .ok (.getfield 97, 3) := by decide +kernel
theorem dX2_takesGreaterShare_100 : decode cX2_takesGreaterShare 100 = .ok (.iaload, 1) := by decide +kernel
theorem dX2_takesGreaterShare_101 : decode cX2_takesGreaterShare 101 = .ok (.aload_n 0, 1) := by decide +kernel
theorem dX2_takesGreaterShare_102 : decode cX2_takesGreaterShare 102 = .ok (.getfield 9, 3) := by decide +kernel
theorem dX2_takesGreaterShare_105 : decode cX2_takesGreaterShare 105 = .ok (.getfield 122, 3) := by decide +kernel
theorem dX2_takesGreaterShare_108 : decode cX2_takesGreaterShare 108 = .ok (.aload_n 0, 1) := by decide +kernel
theorem dX2_takesGreaterShare_109 : decode cX2_takesGreaterShare 109 = .ok (.getfield 30, 3) := by decide +kernel
theorem dX2_takesGreaterShare_112 : decode cX2_takesGreaterShare 112 = .ok (.iaload, 1) := by decide +kernel
theorem dX2_takesGreaterShare_113 : decode cX2_takesGreaterShare 113 = .ok (.isub, 1) := by decide +kernel
theorem dX2_takesGreaterShare_114 : decode cX2_takesGreaterShare 114 = .ok (.istore 4, 2) := by decide +kernel
theorem dX2_takesGreaterShare_116 : decode cX2_takesGreaterShare 116 = .ok (.aload_n 0, 1) := by decide +kernel
theorem dX2_takesGreaterShare_117 : decode cX2_takesGreaterShare 117 = .ok (.getfield 9, 3) := by decide +kernel
theorem dX2_takesGreaterShare_120 : decode cX2_takesGreaterShare 120 = .ok (.getfield 119, 3) := by decide +kernel
theorem dX2_takesGreaterShare_123 : decode cX2_takesGreaterShare 123 = .ok (.aload_n 0, 1) := by decide +kernel
theorem dX2_takesGreaterShare_124 : decode cX2_takesGreaterShare 124 = .ok (.getfield 30, 3) := by decide +kernel
theorem dX2_takesGreaterShare_127 : decode cX2_takesGreaterShare 127 = .ok (.iaload, 1) := by decide +kernel
theorem dX2_takesGreaterShare_128 : decode cX2_takesGreaterShare 128 = .ok (.aload_n 0, 1) := by decide +kernel
theorem dX2_takesGreaterShare_129 : decode cX2_takesGreaterShare 129 = .ok (.getfield 9, 3) := by decide +kernel
theorem dX2_takesGreaterShare_132 : decode cX2_takesGreaterShare 132 = .ok (.getfield 119, 3) := by decide +kernel
theorem dX2_takesGreaterShare_135 : decode cX2_takesGreaterShare 135 = .ok (.aload_n 0, 1) := by decide +kernel
theorem dX2_takesGreaterShare_136 : decode cX2_takesGreaterShare 136 = .ok (.getfield 75, 3) := by decide +kernel
theorem dX2_takesGreaterShare_139 : decode cX2_takesGreaterShare 139 = .ok (.iaload, 1) := by decide +kernel
theorem dX2_takesGreaterShare_140 : decode cX2_takesGreaterShare 140 = .ok (.isub, 1) := by decide +kernel
theorem dX2_takesGreaterShare_141 : decode cX2_takesGreaterShare 141 = .ok (.iload 4, 2) := by decide +kernel
theorem dX2_takesGreaterShare_143 : decode cX2_takesGreaterShare 143 = .ok (.imul, 1) := by decide +kernel
theorem dX2_takesGreaterShare_144 : decode cX2_takesGreaterShare 144 = .ok (.aload_n 0, 1) := by decide +kernel
theorem dX2_takesGreaterShare_145 : decode cX2_takesGreaterShare 145 = .ok (.getfield 9, 3) := by decide +kernel
theorem dX2_takesGreaterShare_148 : decode cX2_takesGreaterShare 148 = .ok (.getfield 122, 3) := by decide +kernel
theorem dX2_takesGreaterShare_151 : decode cX2_takesGreaterShare 151 = .ok (.aload_n 0, 1) := by decide +kernel
theorem dX2_takesGreaterShare_152 : decode cX2_takesGreaterShare 152 = .ok (.getfield 30, 3) := by decide +kernel
theorem dX2_takesGreaterShare_155 : decode cX2_takesGreaterShare 155 = .ok (.iaload, 1) := by decide +kernel
theorem dX2_takesGreaterShare_156 : decode cX2_takesGreaterShare 156 = .ok (.aload_n 0, 1) := by decide +kernel
theorem dX2_takesGreaterShare_157 : decode cX2_takesGreaterShare 157 = .ok (.getfield 9, 3) := by decide +kernel
theorem dX2_takesGreaterShare_160 : decode cX2_takesGreaterShare 160 = .ok (.getfield 122, 3) := by decide +kernel
theorem dX2_takesGreaterShare_163 : decode cX2_takesGreaterShare 163 = .ok (.aload_n 0, 1) := by decide +kernel
theorem dX2_takesGreaterShare_164 : decode cX2_takesGreaterShare 164 = .ok (.getfield 75, 3) := by decide +kernel
theorem dX2_takesGreaterShare_167 : decode cX2_takesGreaterShare 167 = .ok (.iaload, 1) := by decide +kernel
theorem dX2_takesGreaterShare_168 : decode cX2_takesGreaterShare 168 = .ok (.isub, 1) := by decide +kernel
theorem dX2_takesGreaterShare_169 : decode cX2_takesGreaterShare 169 = .ok (.iload_n 3, 1) := by decide +kernel
theorem dX2_takesGreaterShare_170 : decode cX2_takesGreaterShare 170 = .ok (.imul, 1) := by decide +kernel
theorem dX2_takesGreaterShare_171 : decode cX2_takesGreaterShare 171 = .ok (.isub, 1) := by decide +kernel
theorem dX2_takesGreaterShare_172 : decode cX2_takesGreaterShare 172 = .ok (.istore 5, 2) := by decide +kernel
theorem dX2_takesGreaterShare_174 : decode cX2_takesGreaterShare 174 = .ok (.iload_n 2, 1) := by decide +kernel
theorem dX2_takesGreaterShare_175 : decode cX2_takesGreaterShare 175 = .ok (.iload_n 1, 1) := by decide +kernel
theorem dX2_takesGreaterShare_176 : decode cX2_takesGreaterShare 176 = .ok (.isub, 1) := by decide +kernel
theorem dX2_takesGreaterShare_177 : decode cX2_takesGreaterShare 177 = .ok (.istore 6, 2) := by decide +kernel
theorem dX2_takesGreaterShare_179 : decode cX2_takesGreaterShare 179 = .ok (.iload 6, 2) := by decide +kernel
theorem dX2_takesGreaterShare_181 : decode cX2_takesGreaterShare 181 = .ok (.ifCond .ge 13, 3) := by decide +kernel
theorem dX2_takesGreaterShare_184 : decode cX2_takesGreaterShare 184 = .ok (.iload 5, 2) := by decide +kernel
theorem dX2_takesGreaterShare_186 : decode cX2_takesGreaterShare 186 = .ok (.ineg, 1) := by decide +kernel
theorem dX2_takesGreaterShare_187 : decode cX2_takesGreaterShare 187 = .ok (.istore 5, 2) := by decide +kernel
theorem dX2_takesGreaterShare_189 : decode cX2_takesGreaterShare 189 = .ok (.iload 6, 2) := by decide +kernel
theorem dX2_takesGreaterShare_191 : decode cX2_takesGreaterShare 191 = .ok (.ineg, 1) := by decide +kernel
theorem dX2_takesGreaterShare_192 : decode cX2_takesGreaterShare 192 = .ok (.istore 6, 2) := by decide +kernel
theorem dX2_takesGreaterShare_194 : decode cX2_takesGreaterShare 194 = .ok (.iload 5, 2) := by decide +kernel
theorem dX2_takesGreaterShare_196 : decode cX2_takesGreaterShare 196 = .ok (.iload 6, 2) := by decide +kernel
theorem dX2_takesGreaterShare_198 : decode cX2_takesGreaterShare 198 = .ok (.if_icmp .ge 20, 3) := by decide +kernel
theorem dX2_takesGreaterShare_201 : decode cX2_takesGreaterShare 201 = .ok (.iload 5, 2) := by decide +kernel
theorem dX2_takesGreaterShare_203 : decode cX2_takesGreaterShare 203 = .ok (.aload_n 0, 1) := by decide +kernel
theorem dX2_takesGreaterShare_204 : decode cX2_takesGreaterShare 204 = .ok (.getfield 81, 3) := by decide +kernel
theorem dX2_takesGreaterShare_207 : decode cX2_takesGreaterShare 207 = .ok (.imul, 1) := by decide +kernel
theorem dX2_takesGreaterShare_208 : decode cX2_takesGreaterShare 208 = .ok (.aload_n 0, 1) := by decide +kernel
theorem dX2_takesGreaterShare_209 : decode cX2_takesGreaterShare 209 = .ok (.getfield 78, 3) := by decide +kernel
theorem dX2_takesGreaterShare_212 : decode cX2_takesGreaterShare 212 = .ok (.iload 6, 2) := by decide +kernel
theorem dX2_takesGreaterShare_214 : decode cX2_takesGreaterShare 214 = .ok (.imul, 1) := by decide +kernel
theorem dX2_takesGreaterShare_215 : decode cX2_takesGreaterShare 215 = .ok (.if_icmp .gt 5, 3) := by decide +kernel
theorem dX2_takesGreaterShare_218 : decode cX2_takesGreaterShare 218 = .ok (.iconst 0, 1) := by decide +kernel
theorem dX2_takesGreaterShare_219 : decode cX2_takesGreaterShare 219 = .ok (.ireturn, 1) := by decide +kernel
theorem dX2_takesGreaterShare_220 : decode cX2_takesGreaterShare 220 = .ok (.aload_n 0, 1) := by decide +kernel
theorem dX2_takesGreaterShare_221 : decode cX2_takesGreaterShare 221 = .ok (.iload 5, 2) := by decide +kernel
theorem dX2_takesGreaterShare_223 : decode cX2_takesGreaterShare 223 = .ok (.putfield 78, 3) := by decide +kernel
theorem dX2_takesGreaterShare_226 : decode cX2_takesGreaterShare 226 = .ok (.aload_n 0, 1) := by decide +kernel
theorem dX2_takesGreaterShare_227 : decode cX2_takesGreaterShare 227 = .ok (.iload 6, 2) := by decide +kernel
theorem dX2_takesGreaterShare_229 : decode cX2_takesGreaterShare 229 = .ok (.putfield 81, 3) := by decide +kernel
theorem dX2_takesGreaterShare_232 : decode cX2_takesGreaterShare 232 = .ok (.iconst 1, 1) := by decide +kernel
theorem dX2_takesGreaterShare_233 : decode cX2_takesGreaterShare 233 = .ok (.ireturn, 1) := by decide +kernel
theorem dX2_howItEnded_0 : decode cX2_howItEnded 0 = .ok (.aload_n 0, 1) := by decide +kernel
theorem dX2_howItEnded_1 : decode cX2_howItEnded 1 = .ok (.getfield 37, 3) := by decide +kernel
theorem dX2_howItEnded_4 : decode cX2_howItEnded 4 = .ok (.ifCond .eq 5, 3) := by decide +kernel
theorem dX2_howItEnded_7 : decode cX2_howItEnded 7 = .ok (.iconst 2, 1) := by decide +kernel
theorem dX2_howItEnded_8 : decode cX2_howItEnded 8 = .ok (.ireturn, 1) := by decide +kernel
theorem dX2_howItEnded_9 : decode cX2_howItEnded 9 = .ok (.aload_n 0, 1) := by decide +kernel
theorem dX2_howItEnded_10 : decode cX2_howItEnded 10 = .ok (.getfield 53, 3) := by decide +kernel
theorem dX2_howItEnded_13 : decode cX2_howItEnded 13 = .ok (.ifCond .ne 7, 3) := by decide +kernel
theorem dX2_howItEnded_16 : decode cX2_howItEnded 16 = .ok (.iconst 0, 1) := by decide +kernel
theorem dX2_howItEnded_17 : decode cX2_howItEnded 17 = .ok (.goto 4, 3) := by decide +kernel
theorem dX2_howItEnded_20 : decode cX2_howItEnded 20 = .ok (.iconst 1, 1) := by decide +kernel
theorem dX2_howItEnded_21 : decode cX2_howItEnded 21 = .ok (.ireturn, 1) := by decide +kernel
theorem dX2_stepsOrNone_0 : decode cX2_stepsOrNone 0 = .ok (.aload_n 0, 1) := by decide +kernel
theorem dX2_stepsOrNone_1 : decode cX2_stepsOrNone 1 = .ok (.getfield 37, 3) := by decide +kernel
theorem dX2_stepsOrNone_4 : decode cX2_stepsOrNone 4 = .ok (.ifCond .eq 7, 3) := by decide +kernel
theorem dX2_stepsOrNone_7 : decode cX2_stepsOrNone 7 = .ok (.iconst (-1), 1) := by decide +kernel
theorem dX2_stepsOrNone_8 : decode cX2_stepsOrNone 8 = .ok (.goto 7, 3) := by decide +kernel
theorem dX2_stepsOrNone_11 : decode cX2_stepsOrNone 11 = .ok (.aload_n 0, 1) := by decide +kernel
theorem dX2_stepsOrNone_12 : decode cX2_stepsOrNone 12 = .ok (.getfield 41, 3) := by decide +kernel
theorem dX2_stepsOrNone_15 : decode cX2_stepsOrNone 15 = .ok (.ireturn, 1) := by decide +kernel
theorem dX2_nodeBehind_0 : decode cX2_nodeBehind 0 = .ok (.iload_n 1, 1) := by decide +kernel
theorem dX2_nodeBehind_1 : decode cX2_nodeBehind 1 = .ok (.ifCond .lt 27, 3) := by decide +kernel
theorem dX2_nodeBehind_4 : decode cX2_nodeBehind 4 = .ok (.iload_n 1, 1) := by decide +kernel
theorem dX2_nodeBehind_5 : decode cX2_nodeBehind 5 = .ok (.aload_n 0, 1) := by decide +kernel
theorem dX2_nodeBehind_6 : decode cX2_nodeBehind 6 = .ok (.getfield 41, 3) := by decide +kernel
theorem dX2_nodeBehind_9 : decode cX2_nodeBehind 9 = .ok (.if_icmp .gt 19, 3) := by decide +kernel
theorem dX2_nodeBehind_12 : decode cX2_nodeBehind 12 = .ok (.iload_n 1, 1) := by decide +kernel
theorem dX2_nodeBehind_13 : decode cX2_nodeBehind 13 = .ok (.sipush 200, 3) := by decide +kernel
theorem dX2_nodeBehind_16 : decode cX2_nodeBehind 16 = .ok (.if_icmp .gt 12, 3) := by decide +kernel
theorem dX2_nodeBehind_19 : decode cX2_nodeBehind 19 = .ok (.aload_n 0, 1) := by decide +kernel
theorem dX2_nodeBehind_20 : decode cX2_nodeBehind 20 = .ok (.getfield 19, 3) := by decide +kernel
theorem dX2_nodeBehind_23 : decode cX2_nodeBehind 23 = .ok (.iload_n 1, 1) := by decide +kernel
theorem dX2_nodeBehind_24 : decode cX2_nodeBehind 24 = .ok (.iaload, 1) := by decide +kernel
theorem dX2_nodeBehind_25 : decode cX2_nodeBehind 25 = .ok (.goto 4, 3) := by decide +kernel
theorem dX2_nodeBehind_28 : decode cX2_nodeBehind 28 = .ok (.iconst (-1), 1) := by decide +kernel
theorem dX2_nodeBehind_29 : decode cX2_nodeBehind 29 = .ok (.ireturn, 1) := by decide +kernel
set_option maxRecDepth 20000 in
theorem ggX2_countEnding_X1_isAwake : GoodIn wsX2_countEnding wsX1_isAwake := goodIn_r _ [5, 6, 7, 8, 9, 3, 10, 11, 12, 13, 14, 118, 119, 120, 121, 122, 123, 124] (by decide +kernel) (by decide +kernel)
set_option maxRecDepth 20000 in
theorem gX2_countEnding_X1_isAwake_n128 : GoodIn wsX2_countEnding (wsX1_isAwake) := ggX2_countEnding_X1_isAwake
set_option maxRecDepth 20000 in
theorem ggX2_countEnding_X2_walk : GoodIn wsX2_countEnding wsX2_walk := goodIn_r _ [19, 20, 21, 22, 23, 24, 25, 26, 27, 18, 28, 29, 30, 31, 32, 33, 34, 35, 36, 37, 38, 39, 1, 40, 41, 42, 43, 44, 45, 46, 47, 3, 48, 49, 50, 51, 52, 53, 54, 55, 56, 57, 58, 59, 60, 61, 62, 63, 64, 65, 66, 12, 13, 14, 67, 68, 69, 70, 71, 72, 73, 74, 75, 76, 77, 78, 79, 80, 81, 82, 83, 84, 85, 86, 87, 88, 89, 90, 91, 92, 93, 94, 95, 96, 101, 102, 103, 104, 105, 106, 107, 108, 109, 110, 111, 112, 113, 114, 115, 116, 117, 118, 119, 120, 121, 122, 123, 124, 125, 126, 127, 128] (by decide +kernel) (by decide +kernel)
set_option maxRecDepth 20000 in
theorem gX2_countEnding_X2_walk : GoodIn wsX2_countEnding (wsV RX2 132 RX2 yX2_walk wsX2_walk) := goodIn_app (goodIn_of _ (by decide +kernel)) ggX2_countEnding_X2_walk
set_option maxRecDepth 20000 in
theorem ggX2_countEnding_X2_howItEnded : GoodIn wsX2_countEnding wsX2_howItEnded := goodIn_r _ [100, 22, 29, 101, 102, 103, 104, 105, 106, 107, 108, 109, 110, 111, 112, 113, 114, 115, 116, 117] (by decide +kernel) (by decide +kernel)
set_option maxRecDepth 20000 in
theorem gX2_countEnding_X2_howItEnded : GoodIn wsX2_countEnding (wsV RX2 135 RX2 yX2_howItEnded wsX2_howItEnded) := goodIn_app (goodIn_of _ (by decide +kernel)) ggX2_countEnding_X2_howItEnded
theorem dX2_countEnding_0 : decode cX2_countEnding 0 = .ok (.iconst 0, 1) := by decide +kernel
theorem dX2_countEnding_1 : decode cX2_countEnding 1 = .ok (.istore_n 2, 1) := by decide +kernel
theorem dX2_countEnding_2 : decode cX2_countEnding 2 = .ok (.iconst 0, 1) := by decide +kernel
theorem dX2_countEnding_3 : decode cX2_countEnding 3 = .ok (.istore_n 3, 1) := by decide +kernel
theorem dX2_countEnding_4 : decode cX2_countEnding 4 = .ok (.iload_n 3, 1) := by decide +kernel
theorem dX2_countEnding_5 : decode cX2_countEnding 5 = .ok (.aload_n 0, 1) := by decide +kernel
theorem dX2_countEnding_6 : decode cX2_countEnding 6 = .ok (.getfield 9, 3) := by decide +kernel
theorem dX2_countEnding_9 : decode cX2_countEnding 9 = .ok (.getfield 125, 3) := by decide +kernel
theorem dX2_countEnding_12 : decode cX2_countEnding 12 = .ok (.if_icmp .ge 80, 3) := by decide +kernel
theorem dX2_countEnding_15 : decode cX2_countEnding 15 = .ok (.iconst 0, 1) := by decide +kernel
theorem dX2_countEnding_16 : decode cX2_countEnding 16 = .ok (.istore 4, 2) := by decide +kernel
theorem dX2_countEnding_18 : decode cX2_countEnding 18 = .ok (.iload 4, 2) := by decide +kernel
theorem dX2_countEnding_20 : decode cX2_countEnding 20 = .ok (.aload_n 0, 1) := by decide +kernel
theorem dX2_countEnding_21 : decode cX2_countEnding 21 = .ok (.getfield 9, 3) := by decide +kernel
theorem dX2_countEnding_24 : decode cX2_countEnding 24 = .ok (.getfield 125, 3) := by decide +kernel
theorem dX2_countEnding_27 : decode cX2_countEnding 27 = .ok (.if_icmp .ge 59, 3) := by decide +kernel
theorem dX2_countEnding_30 : decode cX2_countEnding 30 = .ok (.iload_n 3, 1) := by decide +kernel
theorem dX2_countEnding_31 : decode cX2_countEnding 31 = .ok (.iload 4, 2) := by decide +kernel
theorem dX2_countEnding_33 : decode cX2_countEnding 33 = .ok (.if_icmp .eq 47, 3) := by decide +kernel
theorem dX2_countEnding_36 : decode cX2_countEnding 36 = .ok (.aload_n 0, 1) := by decide +kernel
theorem dX2_countEnding_37 : decode cX2_countEnding 37 = .ok (.getfield 9, 3) := by decide +kernel
theorem dX2_countEnding_40 : decode cX2_countEnding 40 = .ok (.iload_n 3, 1) := by decide +kernel
theorem dX2_countEnding_41 : decode cX2_countEnding 41 = .ok (.invokevirtual 128, 3) := by decide +kernel
theorem dX2_countEnding_44 : decode cX2_countEnding 44 = .ok (.ifCond .eq 36, 3) := by decide +kernel
theorem dX2_countEnding_47 : decode cX2_countEnding 47 = .ok (.aload_n 0, 1) := by decide +kernel
theorem dX2_countEnding_48 : decode cX2_countEnding 48 = .ok (.getfield 9, 3) := by decide +kernel
theorem dX2_countEnding_51 : decode cX2_countEnding 51 = .ok (.iload 4, 2) := by decide +kernel
theorem dX2_countEnding_53 : decode cX2_countEnding 53 = .ok (.invokevirtual 128, 3) := by decide +kernel
theorem dX2_countEnding_56 : decode cX2_countEnding 56 = .ok (.ifCond .ne 6, 3) := by decide +kernel
theorem dX2_countEnding_59 : decode cX2_countEnding 59 = .ok (.goto 21, 3) := by decide +kernel
theorem dX2_countEnding_62 : decode cX2_countEnding 62 = .ok (.aload_n 0, 1) := by decide +kernel
theorem dX2_countEnding_63 : decode cX2_countEnding 63 = .ok (.iload_n 3, 1) := by decide +kernel
theorem dX2_countEnding_64 : decode cX2_countEnding 64 = .ok (.iload 4, 2) := by decide +kernel
theorem dX2_countEnding_66 : decode cX2_countEnding 66 = .ok (.invokevirtual 132, 3) := by decide +kernel
theorem dX2_countEnding_69 : decode cX2_countEnding 69 = .ok (.aload_n 0, 1) := by decide +kernel
theorem dX2_countEnding_70 : decode cX2_countEnding 70 = .ok (.invokevirtual 135, 3) := by decide +kernel
theorem dX2_countEnding_73 : decode cX2_countEnding 73 = .ok (.iload_n 1, 1) := by decide +kernel
theorem dX2_countEnding_74 : decode cX2_countEnding 74 = .ok (.if_icmp .ne 6, 3) := by decide +kernel
theorem dX2_countEnding_77 : decode cX2_countEnding 77 = .ok (.iinc 2 1, 3) := by decide +kernel
theorem dX2_countEnding_80 : decode cX2_countEnding 80 = .ok (.iinc 4 1, 3) := by decide +kernel
theorem dX2_countEnding_83 : decode cX2_countEnding 83 = .ok (.goto (-65), 3) := by decide +kernel
theorem dX2_countEnding_86 : decode cX2_countEnding 86 = .ok (.iinc 3 1, 3) := by decide +kernel
theorem dX2_countEnding_89 : decode cX2_countEnding 89 = .ok (.goto (-85), 3) := by decide +kernel
theorem dX2_countEnding_92 : decode cX2_countEnding 92 = .ok (.iload_n 2, 1) := by decide +kernel
theorem dX2_countEnding_93 : decode cX2_countEnding 93 = .ok (.ireturn, 1) := by decide +kernel
theorem dX3_init_0 : decode cX3_init 0 = .ok (.aload_n 0, 1) := by decide +kernel
theorem dX3_init_1 : decode cX3_init 1 = .ok (.invokespecial 3, 3) := by decide +kernel
theorem dX3_init_4 : decode cX3_init 4 = .ok (.aload_n 0, 1) := by decide +kernel
theorem dX3_init_5 : decode cX3_init 5 = .ok (.aload_n 1, 1) := by decide +kernel
theorem dX3_init_6 : decode cX3_init 6 = .ok (.putfield 9, 3) := by decide +kernel
theorem dX3_init_9 : decode cX3_init 9 = .ok (.aload_n 0, 1) := by decide +kernel
theorem dX3_init_10 : decode cX3_init 10 = .ok (.bipush 10, 2) := by decide +kernel
theorem dX3_init_12 : decode cX3_init 12 = .ok (.newarray .int, 2) := by decide +kernel
theorem dX3_init_14 : decode cX3_init 14 = .ok (.putfield 15, 3) := by decide +kernel
theorem dX3_init_17 : decode cX3_init 17 = .ok (.aload_n 0, 1) := by decide +kernel
theorem dX3_init_18 : decode cX3_init 18 = .ok (.bipush 10, 2) := by decide +kernel
theorem dX3_init_20 : decode cX3_init 20 = .ok (.newarray .int, 2) := by decide +kernel
theorem dX3_init_22 : decode cX3_init 22 = .ok (.putfield 19, 3) := by decide +kernel
theorem dX3_init_25 : decode cX3_init 25 = .ok (.aload_n 0, 1) := by decide +kernel
theorem dX3_init_26 : decode cX3_init 26 = .ok (.bipush 10, 2) := by decide +kernel
theorem dX3_init_28 : decode cX3_init 28 = .ok (.newarray .int, 2) := by decide +kernel
theorem dX3_init_30 : decode cX3_init 30 = .ok (.putfield 22, 3) := by decide +kernel
theorem dX3_init_33 : decode cX3_init 33 = .ok (.return_, 1) := by decide +kernel
set_option maxRecDepth 20000 in
theorem ggX3_follow_J7_fill_53178 : GoodIn wsX3_follow wsJ7_fill_53178 := goodIn_r _ [7] (by decide +kernel) (by decide +kernel)
set_option maxRecDepth 20000 in
theorem gX3_follow_J7_fill_53178 : GoodIn wsX3_follow (va_wsS RX3 25 yJ7_fill_53178 wsJ7_fill_53178) := goodIn_app (goodIn_of _ (by decide +kernel)) ggX3_follow_J7_fill_53178
set_option maxRecDepth 20000 in
theorem ggX3_follow_X3_areNear : GoodIn wsX3_follow wsX3_areNear := goodIn_r _ [12, 3, 13, 14, 15, 16, 17, 18, 19, 20, 21, 22, 23, 24, 25, 26, 27, 28, 29, 30, 42, 43, 44, 45, 46, 47, 48, 49, 50, 51, 52] (by decide +kernel) (by decide +kernel)
set_option maxRecDepth 20000 in
theorem gX3_follow_X3_areNear : GoodIn wsX3_follow (wsV RX3 37 RX3 yX3_areNear wsX3_areNear) := goodIn_app (goodIn_of _ (by decide +kernel)) ggX3_follow_X3_areNear
set_option maxRecDepth 20000 in
theorem ggX3_follow_X3_tie : GoodIn wsX3_follow wsX3_tie := goodIn_r _ [33] (by decide +kernel) (by decide +kernel)
set_option maxRecDepth 20000 in
theorem gX3_follow_X3_tie : GoodIn wsX3_follow (va_wsS RX3 41 yX3_tie wsX3_tie) := goodIn_app (goodIn_of _ (by decide +kernel)) ggX3_follow_X3_tie
set_option maxRecDepth 20000 in
theorem ggX3_follow_X3_isClear : GoodIn wsX3_follow wsX3_isClear := goodIn_r _ [37, 3, 13, 14, 15, 16, 17, 18, 19, 20, 21, 22, 23, 24, 25, 38, 39, 40, 11, 41, 26, 27, 28, 29, 30, 42, 43, 44, 45, 46, 47, 48, 49, 50, 51, 52] (by decide +kernel) (by decide +kernel)
set_option maxRecDepth 20000 in
theorem gX3_follow_X3_isClear : GoodIn wsX3_follow (wsV RX3 45 RX3 yX3_isClear wsX3_isClear) := goodIn_app (goodIn_of _ (by decide +kernel)) ggX3_follow_X3_isClear
theorem dX3_follow_0 : decode cX3_follow 0 = .ok (.aload_n 0, 1) := by decide +kernel
theorem dX3_follow_1 : decode cX3_follow 1 = .ok (.getfield 15, 3) := by decide +kernel
theorem dX3_follow_4 : decode cX3_follow 4 = .ok (.iconst 0, 1) := by decide +kernel
theorem dX3_follow_5 : decode cX3_follow 5 = .ok (.invokestatic 25, 3) := by decide +kernel
theorem dX3_follow_8 : decode cX3_follow 8 = .ok (.aload_n 0, 1) := by decide +kernel
theorem dX3_follow_9 : decode cX3_follow 9 = .ok (.getfield 19, 3) := by decide +kernel
theorem dX3_follow_12 : decode cX3_follow 12 = .ok (.iconst 0, 1) := by decide +kernel
theorem dX3_follow_13 : decode cX3_follow 13 = .ok (.invokestatic 25, 3) := by decide +kernel
theorem dX3_follow_16 : decode cX3_follow 16 = .ok (.iconst 0, 1) := by decide +kernel
theorem dX3_follow_17 : decode cX3_follow 17 = .ok (.istore_n 1, 1) := by decide +kernel
theorem dX3_follow_18 : decode cX3_follow 18 = .ok (.iload_n 1, 1) := by decide +kernel
theorem dX3_follow_19 : decode cX3_follow 19 = .ok (.aload_n 0, 1) := by decide +kernel
theorem dX3_follow_20 : decode cX3_follow 20 = .ok (.getfield 9, 3) := by decide +kernel
theorem dX3_follow_23 : decode cX3_follow 23 = .ok (.getfield 31, 3) := by decide +kernel
theorem dX3_follow_26 : decode cX3_follow 26 = .ok (.if_icmp .ge 67, 3) := by decide +kernel
theorem dX3_follow_29 : decode cX3_follow 29 = .ok (.iconst 0, 1) := by decide +kernel
theorem dX3_follow_30 : decode cX3_follow 30 = .ok (.istore_n 2, 1) := by decide +kernel
theorem dX3_follow_31 : decode cX3_follow 31 = .ok (.iload_n 2, 1) := by decide +kernel
theorem dX3_follow_32 : decode cX3_follow 32 = .ok (.iload_n 1, 1) := by decide +kernel
theorem dX3_follow_33 : decode cX3_follow 33 = .ok (.if_icmp .ge 54, 3) := by decide +kernel
theorem dX3_follow_36 : decode cX3_follow 36 = .ok (.aload_n 0, 1) := by decide +kernel
theorem dX3_follow_37 : decode cX3_follow 37 = .ok (.iload_n 1, 1) := by decide +kernel
theorem dX3_follow_38 : decode cX3_follow 38 = .ok (.iload_n 2, 1) := by decide +kernel
theorem dX3_follow_39 : decode cX3_follow 39 = .ok (.invokevirtual 37, 3) := by decide +kernel
theorem dX3_follow_42 : decode cX3_follow 42 = .ok (.ifCond .eq 12, 3) := by decide +kernel
theorem dX3_follow_45 : decode cX3_follow 45 = .ok (.aload_n 0, 1) := by decide +kernel
theorem dX3_follow_46 : decode cX3_follow 46 = .ok (.getfield 15, 3) := by decide +kernel
theorem dX3_follow_49 : decode cX3_follow 49 = .ok (.iload_n 1, 1) := by decide +kernel
theorem dX3_follow_50 : decode cX3_follow 50 = .ok (.iload_n 2, 1) := by decide +kernel
theorem dX3_follow_51 : decode cX3_follow 51 = .ok (.invokestatic 41, 3) := by decide +kernel
theorem dX3_follow_54 : decode cX3_follow 54 = .ok (.aload_n 0, 1) := by decide +kernel
theorem dX3_follow_55 : decode cX3_follow 55 = .ok (.iload_n 1, 1) := by decide +kernel
theorem dX3_follow_56 : decode cX3_follow 56 = .ok (.iload_n 2, 1) := by decide +kernel
theorem dX3_follow_57 : decode cX3_follow 57 = .ok (.invokevirtual 37, 3) := by decide +kernel
theorem dX3_follow_60 : decode cX3_follow 60 = .ok (.ifCond .eq 21, 3) := by decide +kernel
theorem dX3_follow_63 : decode cX3_follow 63 = .ok (.aload_n 0, 1) := by decide +kernel
theorem dX3_follow_64 : decode cX3_follow 64 = .ok (.iload_n 1, 1) := by decide +kernel
theorem dX3_follow_65 : decode cX3_follow 65 = .ok (.iload_n 2, 1) := by decide +kernel
theorem dX3_follow_66 : decode cX3_follow 66 = .ok (.invokevirtual 45, 3) := by decide +kernel
theorem dX3_follow_69 : decode cX3_follow 69 = .ok (.ifCond .eq 12, 3) := by decide +kernel
theorem dX3_follow_72 : decode cX3_follow 72 = .ok (.aload_n 0, 1) := by decide +kernel
theorem dX3_follow_73 : decode cX3_follow 73 = .ok (.getfield 19, 3) := by decide +kernel
theorem dX3_follow_76 : decode cX3_follow 76 = .ok (.iload_n 1, 1) := by decide +kernel
theorem dX3_follow_77 : decode cX3_follow 77 = .ok (.iload_n 2, 1) := by decide +kernel
theorem dX3_follow_78 : decode cX3_follow 78 = .ok (.invokestatic 41, 3) := by decide +kernel
theorem dX3_follow_81 : decode cX3_follow 81 = .ok (.iinc 2 1, 3) := by decide +kernel
theorem dX3_follow_84 : decode cX3_follow 84 = .ok (.goto (-53), 3) := by decide +kernel
theorem dX3_follow_87 : decode cX3_follow 87 = .ok (.iinc 1 1, 3) := by decide +kernel
theorem dX3_follow_90 : decode cX3_follow 90 = .ok (.goto (-72), 3) := by decide +kernel
theorem dX3_follow_93 : decode cX3_follow 93 = .ok (.return_, 1) := by decide +kernel
theorem dX3_tie_0 : decode cX3_tie 0 = .ok (.aload_n 0, 1) := by decide +kernel
theorem dX3_tie_1 : decode cX3_tie 1 = .ok (.iload_n 1, 1) := by decide +kernel
theorem dX3_tie_2 : decode cX3_tie 2 = .ok (.dup2, 1) := by decide +kernel
theorem dX3_tie_3 : decode cX3_tie 3 = .ok (.iaload, 1) := by decide +kernel
theorem dX3_tie_4 : decode cX3_tie 4 = .ok (.iconst 1, 1) := by decide +kernel
theorem dX3_tie_5 : decode cX3_tie 5 = .ok (.iload_n 2, 1) := by decide +kernel
theorem dX3_tie_6 : decode cX3_tie 6 = .ok (.ishl, 1) := by decide +kernel
theorem dX3_tie_7 : decode cX3_tie 7 = .ok (.ior, 1) := by decide +kernel
theorem dX3_tie_8 : decode cX3_tie 8 = .ok (.iastore, 1) := by decide +kernel
theorem dX3_tie_9 : decode cX3_tie 9 = .ok (.aload_n 0, 1) := by decide +kernel
theorem dX3_tie_10 : decode cX3_tie 10 = .ok (.iload_n 2, 1) := by decide +kernel
theorem dX3_tie_11 : decode cX3_tie 11 = .ok (.dup2, 1) := by decide +kernel
theorem dX3_tie_12 : decode cX3_tie 12 = .ok (.iaload, 1) := by decide +kernel
theorem dX3_tie_13 : decode cX3_tie 13 = .ok (.iconst 1, 1) := by decide +kernel
theorem dX3_tie_14 : decode cX3_tie 14 = .ok (.iload_n 1, 1) := by decide +kernel
theorem dX3_tie_15 : decode cX3_tie 15 = .ok (.ishl, 1) := by decide +kernel
theorem dX3_tie_16 : decode cX3_tie 16 = .ok (.ior, 1) := by decide +kernel
theorem dX3_tie_17 : decode cX3_tie 17 = .ok (.iastore, 1) := by decide +kernel
theorem dX3_tie_18 : decode cX3_tie 18 = .ok (.return_, 1) := by decide +kernel
set_option maxRecDepth 20000 in
theorem ggX3_areNear_X1_isAwake : GoodIn wsX3_areNear wsX1_isAwake := goodIn_r _ [5, 6, 7, 8, 9, 3, 10, 11, 12, 13, 14, 24, 25, 26, 27, 28, 29, 30] (by decide +kernel) (by decide +kernel)
set_option maxRecDepth 20000 in
theorem gX3_areNear_X1_isAwake_n48 : GoodIn wsX3_areNear (wsX1_isAwake) := ggX3_areNear_X1_isAwake
set_option maxRecDepth 20000 in
theorem ggX3_areNear_X1_apart : GoodIn wsX3_areNear wsX1_apart := goodIn_r _ [17, 18, 19, 24, 25, 26, 27, 28, 29, 30] (by decide +kernel) (by decide +kernel)
set_option maxRecDepth 20000 in
theorem gX3_areNear_X1_apart_n52 : GoodIn wsX3_areNear (wsX1_apart) := ggX3_areNear_X1_apart
theorem dX3_areNear_0 : decode cX3_areNear 0 = .ok (.aload_n 0, 1) := by decide +kernel
theorem dX3_areNear_1 : decode cX3_areNear 1 = .ok (.getfield 9, 3) := by decide +kernel
theorem dX3_areNear_4 : decode cX3_areNear 4 = .ok (.iload_n 1, 1) := by decide +kernel
theorem dX3_areNear_5 : decode cX3_areNear 5 = .ok (.invokevirtual 48, 3) := by decide +kernel
theorem dX3_areNear_8 : decode cX3_areNear 8 = .ok (.ifCond .eq 37, 3) := by decide +kernel
theorem dX3_areNear_11 : decode cX3_areNear 11 = .ok (.aload_n 0, 1) := by decide +kernel
theorem dX3_areNear_12 : decode cX3_areNear 12 = .ok (.getfield 9, 3) := by decide +kernel
theorem dX3_areNear_15 : decode cX3_areNear 15 = .ok (.iload_n 2, 1) := by decide +kernel
theorem dX3_areNear_16 : decode cX3_areNear 16 = .ok (.invokevirtual 48, 3) := by decide +kernel
theorem dX3_areNear_19 : decode cX3_areNear 19 = .ok (.ifCond .eq 26, 3) := by decide +kernel
theorem dX3_areNear_22 : decode cX3_areNear 22 = .ok (.aload_n 0, 1) := by decide +kernel
theorem dX3_areNear_23 : decode cX3_areNear 23 = .ok (.getfield 9, 3) := by decide +kernel
theorem dX3_areNear_26 : decode cX3_areNear 26 = .ok (.iload_n 1, 1) := by decide +kernel
theorem dX3_areNear_27 : decode cX3_areNear 27 = .ok (.iload_n 2, 1) := by decide +kernel
theorem dX3_areNear_28 : decode cX3_areNear 28 = .ok (.invokevirtual 52, 3) := by decide +kernel
theorem dX3_areNear_31 : decode cX3_areNear 31 = .ok (.aload_n 0, 1) := by decide +kernel
theorem dX3_areNear_32 : decode cX3_areNear 32 = .ok (.getfield 9, 3) := by decide +kernel
theorem dX3_areNear_35 : decode cX3_areNear 35 = .ok (.getfield 56, 3) := by decide +kernel
theorem dX3_areNear_38 : decode cX3_areNear 38 = .ok (.if_icmp .gt 7, 3) := by decide +kernel
theorem dX3_areNear_41 : decode cX3_areNear 41 = .ok (.iconst 1, 1) := by decide +kernel
theorem dX3_areNear_42 : decode cX3_areNear 42 = .ok (.goto 4, 3) := by decide +kernel
theorem dX3_areNear_45 : decode cX3_areNear 45 = .ok (.iconst 0, 1) := by decide +kernel
theorem dX3_areNear_46 : decode cX3_areNear 46 = .ok (.ireturn, 1) := by decide +kernel
set_option maxRecDepth 20000 in
theorem ggX3_isClear_X1_isAwake : GoodIn wsX3_isClear wsX1_isAwake := goodIn_r _ [5, 6, 7, 8, 9, 3, 10, 11, 12, 13, 14, 29, 30, 31, 32, 33, 34, 35] (by decide +kernel) (by decide +kernel)
set_option maxRecDepth 20000 in
theorem gX3_isClear_X1_isAwake_n48 : GoodIn wsX3_isClear (wsX1_isAwake) := ggX3_isClear_X1_isAwake
set_option maxRecDepth 20000 in
theorem ggX3_isClear_X3_isBetween : GoodIn wsX3_isClear wsX3_isBetween := goodIn_r _ [19, 1, 20, 3, 21, 22, 23, 24, 25, 26, 27, 28, 29, 30, 31, 32, 33, 34, 35] (by decide +kernel) (by decide +kernel)
set_option maxRecDepth 20000 in
theorem gX3_isClear_X3_isBetween : GoodIn wsX3_isClear (wsV RX3 59 RX3 yX3_isBetween wsX3_isBetween) := goodIn_app (goodIn_of _ (by decide +kernel)) ggX3_isClear_X3_isBetween
theorem dX3_isClear_0 : decode cX3_isClear 0 = .ok (.iconst 0, 1) := by decide +kernel
theorem dX3_isClear_1 : decode cX3_isClear 1 = .ok (.istore_n 3, 1) := by decide +kernel
theorem dX3_isClear_2 : decode cX3_isClear 2 = .ok (.iload_n 3, 1) := by decide +kernel
theorem dX3_isClear_3 : decode cX3_isClear 3 = .ok (.aload_n 0, 1) := by decide +kernel
theorem dX3_isClear_4 : decode cX3_isClear 4 = .ok (.getfield 9, 3) := by decide +kernel
theorem dX3_isClear_7 : decode cX3_isClear 7 = .ok (.getfield 31, 3) := by decide +kernel
theorem dX3_isClear_10 : decode cX3_isClear 10 = .ok (.if_icmp .ge 42, 3) := by decide +kernel
theorem dX3_isClear_13 : decode cX3_isClear 13 = .ok (.iload_n 3, 1) := by decide +kernel
theorem dX3_isClear_14 : decode cX3_isClear 14 = .ok (.iload_n 1, 1) := by decide +kernel
theorem dX3_isClear_15 : decode cX3_isClear 15 = .ok (.if_icmp .eq 31, 3) := by decide +kernel
theorem dX3_isClear_18 : decode cX3_isClear 18 = .ok (.iload_n 3, 1) := by decide +kernel
theorem dX3_isClear_19 : decode cX3_isClear 19 = .ok (.iload_n 2, 1) := by decide +kernel
theorem dX3_isClear_20 : decode cX3_isClear 20 = .ok (.if_icmp .eq 26, 3) := by decide +kernel
theorem dX3_isClear_23 : decode cX3_isClear 23 = .ok (.aload_n 0, 1) := by decide +kernel
theorem dX3_isClear_24 : decode cX3_isClear 24 = .ok (.getfield 9, 3) := by decide +kernel
theorem dX3_isClear_27 : decode cX3_isClear 27 = .ok (.iload_n 3, 1) := by decide +kernel
theorem dX3_isClear_28 : decode cX3_isClear 28 = .ok (.invokevirtual 48, 3) := by decide +kernel
theorem dX3_isClear_31 : decode cX3_isClear 31 = .ok (.ifCond .eq 15, 3) := by decide +kernel
theorem dX3_isClear_34 : decode cX3_isClear 34 = .ok (.aload_n 0, 1) := by decide +kernel
theorem dX3_isClear_35 : decode cX3_isClear 35 = .ok (.iload_n 1, 1) := by decide +kernel
theorem dX3_isClear_36 : decode cX3_isClear 36 = .ok (.iload_n 2, 1) := by decide +kernel
theorem dX3_isClear_37 : decode cX3_isClear 37 = .ok (.iload_n 3, 1) := by decide +kernel
theorem dX3_isClear_38 : decode cX3_isClear 38 = .ok (.invokevirtual 59, 3) := by decide +kernel
theorem dX3_isClear_41 : decode cX3_isClear 41 = .ok (.ifCond .eq 5, 3) := by decide +kernel
theorem dX3_isClear_44 : decode cX3_isClear 44 = .ok (.iconst 0, 1) := by decide +kernel
theorem dX3_isClear_45 : decode cX3_isClear 45 = .ok (.ireturn, 1) := by decide +kernel
theorem dX3_isClear_46 : decode cX3_isClear 46 = .ok (.iinc 3 1, 3) := by decide +kernel
theorem dX3_isClear_49 : decode cX3_isClear 49 = .ok (.goto (-47), 3) := by decide +kernel
theorem dX3_isClear_52 : decode cX3_isClear 52 = .ok (.iconst 1, 1) := by decide +kernel
theorem dX3_isClear_53 : decode cX3_isClear 53 = .ok (.ireturn, 1) := by decide +kernel
set_option maxRecDepth 20000 in
theorem ggX3_isBetween_X1_apart : GoodIn wsX3_isBetween wsX1_apart := goodIn_r _ [5, 6, 7, 12, 13, 14, 15, 16, 17, 18] (by decide +kernel) (by decide +kernel)
set_option maxRecDepth 20000 in
theorem gX3_isBetween_X1_apart_n52 : GoodIn wsX3_isBetween (wsX1_apart) := ggX3_isBetween_X1_apart
theorem dX3_isBetween_0 : decode cX3_isBetween 0 = .ok (.aload_n 0, 1) := by decide +kernel
theorem dX3_isBetween_1 : decode cX3_isBetween 1 = .ok (.getfield 9, 3) := by decide +kernel
theorem dX3_isBetween_4 : decode cX3_isBetween 4 = .ok (.iload_n 1, 1) := by decide +kernel
theorem dX3_isBetween_5 : decode cX3_isBetween 5 = .ok (.iload_n 2, 1) := by decide +kernel
theorem dX3_isBetween_6 : decode cX3_isBetween 6 = .ok (.invokevirtual 52, 3) := by decide +kernel
theorem dX3_isBetween_9 : decode cX3_isBetween 9 = .ok (.istore 4, 2) := by decide +kernel
theorem dX3_isBetween_11 : decode cX3_isBetween 11 = .ok (.aload_n 0, 1) := by decide +kernel
theorem dX3_isBetween_12 : decode cX3_isBetween 12 = .ok (.getfield 9, 3) := by decide +kernel
theorem dX3_isBetween_15 : decode cX3_isBetween 15 = .ok (.iload_n 1, 1) := by decide +kernel
theorem dX3_isBetween_16 : decode cX3_isBetween 16 = .ok (.iload_n 3, 1) := by decide +kernel
theorem dX3_isBetween_17 : decode cX3_isBetween 17 = .ok (.invokevirtual 52, 3) := by decide +kernel
theorem dX3_isBetween_20 : decode cX3_isBetween 20 = .ok (.istore 5, 2) := by decide +kernel
theorem dX3_isBetween_22 : decode cX3_isBetween 22 = .ok (.aload_n 0, 1) := by decide +kernel
theorem dX3_isBetween_23 : decode cX3_isBetween 23 = .ok (.getfield 9, 3) := by decide +kernel
theorem dX3_isBetween_26 : decode cX3_isBetween 26 = .ok (.iload_n 3, 1) := by decide +kernel
theorem dX3_isBetween_27 : decode cX3_isBetween 27 = .ok (.iload_n 2, 1) := by decide +kernel
theorem dX3_isBetween_28 : decode cX3_isBetween 28 = .ok (.invokevirtual 52, 3) := by decide +kernel
theorem dX3_isBetween_31 : decode cX3_isBetween 31 = .ok (.istore 6, 2) := by decide +kernel
theorem dX3_isBetween_33 : decode cX3_isBetween 33 = .ok (.aload_n 0, 1) := by decide +kernel
theorem dX3_isBetween_34 : decode cX3_isBetween 34 = .ok (.getfield 9, 3) := by decide +kernel
theorem dX3_isBetween_37 : decode cX3_isBetween 37 = .ok (.getfield 63, 3) := by decide +kernel
theorem dX3_isBetween_40 : decode cX3_isBetween 40 = .ok (.ifCond .ne 21, 3) := by decide +kernel
theorem dX3_isBetween_43 : decode cX3_isBetween 43 = .ok (.iload 5, 2) := by decide +kernel
theorem dX3_isBetween_45 : decode cX3_isBetween 45 = .ok (.iload 6, 2) := by decide +kernel
theorem dX3_isBetween_47 : decode cX3_isBetween 47 = .ok (.iadd, 1) := by decide +kernel
theorem dX3_isBetween_48 : decode cX3_isBetween 48 = .ok (.iload 4, 2) := by decide +kernel
theorem dX3_isBetween_50 : decode cX3_isBetween 50 = .ok (.if_icmp .gt 7, 3) := by decide +kernel
theorem dX3_isBetween_53 : decode cX3_isBetween 53 = .ok (.iconst 1, 1) := by decide +kernel
theorem dX3_isBetween_54 : decode cX3_isBetween 54 = .ok (.goto 26, 3) := by decide +kernel
theorem dX3_isBetween_57 : decode cX3_isBetween 57 = .ok (.iconst 0, 1) := by decide +kernel
theorem dX3_isBetween_58 : decode cX3_isBetween 58 = .ok (.goto 22, 3) := by decide +kernel
theorem dX3_isBetween_61 : decode cX3_isBetween 61 = .ok (.iload 5, 2) := by decide +kernel
theorem dX3_isBetween_63 : decode cX3_isBetween 63 = .ok (.iload 4, 2) := by decide +kernel
theorem dX3_isBetween_65 : decode cX3_isBetween 65 = .ok (.if_icmp .ge 14, 3) := by decide +kernel
theorem dX3_isBetween_68 : decode cX3_isBetween 68 = .ok (.iload 6, 2) := by decide +kernel
theorem dX3_isBetween_70 : decode cX3_isBetween 70 = .ok (.iload 4, 2) := by decide +kernel
theorem dX3_isBetween_72 : decode cX3_isBetween 72 = .ok (.if_icmp .ge 7, 3) := by decide +kernel
theorem dX3_isBetween_75 : decode cX3_isBetween 75 = .ok (.iconst 1, 1) := by decide +kernel
theorem dX3_isBetween_76 : decode cX3_isBetween 76 = .ok (.goto 4, 3) := by decide +kernel
theorem dX3_isBetween_79 : decode cX3_isBetween 79 = .ok (.iconst 0, 1) := by decide +kernel
theorem dX3_isBetween_80 : decode cX3_isBetween 80 = .ok (.ireturn, 1) := by decide +kernel
set_option maxRecDepth 20000 in
theorem ggX3_countPairs_J6_bitCount_0f7a4 : GoodIn wsX3_countPairs wsJ6_bitCount_0f7a4 := goodIn_r _ [5, 6, 7, 8] (by decide +kernel) (by decide +kernel)
set_option maxRecDepth 20000 in
theorem gX3_countPairs_J6_bitCount_0f7a4 : GoodIn wsX3_countPairs (va_wsS RX3 66 yJ6_bitCount_0f7a4 wsJ6_bitCount_0f7a4) := goodIn_app (goodIn_of _ (by decide +kernel)) ggX3_countPairs_J6_bitCount_0f7a4
theorem dX3_countPairs_0 : decode cX3_countPairs 0 = .ok (.iconst 0, 1) := by decide +kernel
theorem dX3_countPairs_1 : decode cX3_countPairs 1 = .ok (.istore_n 2, 1) := by decide +kernel
theorem dX3_countPairs_2 : decode cX3_countPairs 2 = .ok (.iconst 0, 1) := by decide +kernel
theorem dX3_countPairs_3 : decode cX3_countPairs 3 = .ok (.istore_n 3, 1) := by decide +kernel
theorem dX3_countPairs_4 : decode cX3_countPairs 4 = .ok (.iload_n 3, 1) := by decide +kernel
theorem dX3_countPairs_5 : decode cX3_countPairs 5 = .ok (.aload_n 0, 1) := by decide +kernel
theorem dX3_countPairs_6 : decode cX3_countPairs 6 = .ok (.getfield 9, 3) := by decide +kernel
theorem dX3_countPairs_9 : decode cX3_countPairs 9 = .ok (.getfield 31, 3) := by decide +kernel
theorem dX3_countPairs_12 : decode cX3_countPairs 12 = .ok (.if_icmp .ge 18, 3) := by decide +kernel
theorem dX3_countPairs_15 : decode cX3_countPairs 15 = .ok (.iload_n 2, 1) := by decide +kernel
theorem dX3_countPairs_16 : decode cX3_countPairs 16 = .ok (.aload_n 1, 1) := by decide +kernel
theorem dX3_countPairs_17 : decode cX3_countPairs 17 = .ok (.iload_n 3, 1) := by decide +kernel
theorem dX3_countPairs_18 : decode cX3_countPairs 18 = .ok (.iaload, 1) := by decide +kernel
theorem dX3_countPairs_19 : decode cX3_countPairs 19 = .ok (.invokestatic 66, 3) := by decide +kernel
theorem dX3_countPairs_22 : decode cX3_countPairs 22 = .ok (.iadd, 1) := by decide +kernel
theorem dX3_countPairs_23 : decode cX3_countPairs 23 = .ok (.istore_n 2, 1) := by decide +kernel
theorem dX3_countPairs_24 : decode cX3_countPairs 24 = .ok (.iinc 3 1, 3) := by decide +kernel
theorem dX3_countPairs_27 : decode cX3_countPairs 27 = .ok (.goto (-23), 3) := by decide +kernel
theorem dX3_countPairs_30 : decode cX3_countPairs 30 = .ok (.iload_n 2, 1) := by decide +kernel
theorem dX3_countPairs_31 : decode cX3_countPairs 31 = .ok (.iconst 2, 1) := by decide +kernel
theorem dX3_countPairs_32 : decode cX3_countPairs 32 = .ok (.idiv, 1) := by decide +kernel
theorem dX3_countPairs_33 : decode cX3_countPairs 33 = .ok (.ireturn, 1) := by decide +kernel
set_option maxRecDepth 20000 in
theorem ggX3_turnFrom_X5_holds : GoodIn wsX3_turnFrom wsX5_holds := goodIn_r _ [5] (by decide +kernel) (by decide +kernel)
set_option maxRecDepth 20000 in
theorem gX3_turnFrom_X5_holds_n72 : GoodIn wsX3_turnFrom (wsX5_holds) := ggX3_turnFrom_X5_holds
set_option maxRecDepth 20000 in
theorem ggX3_turnFrom_X3_isHalfRound : GoodIn wsX3_turnFrom wsX3_isHalfRound := goodIn_r _ [10, 2, 11, 12, 13, 14, 15, 16, 17, 18, 19, 27, 28, 29, 30, 31, 32, 33, 34, 35, 36, 37] (by decide +kernel) (by decide +kernel)
set_option maxRecDepth 20000 in
theorem gX3_turnFrom_X3_isHalfRound : GoodIn wsX3_turnFrom (wsV RX3 75 RX3 yX3_isHalfRound wsX3_isHalfRound) := goodIn_app (goodIn_of _ (by decide +kernel)) ggX3_turnFrom_X3_isHalfRound
set_option maxRecDepth 20000 in
theorem ggX3_turnFrom_X3_isSooner : GoodIn wsX3_turnFrom wsX3_isSooner := goodIn_r _ [23, 2, 11, 12, 13, 14, 15, 16, 24, 25, 26, 27, 28, 29, 30, 31, 32, 33, 34, 35, 36, 37] (by decide +kernel) (by decide +kernel)
set_option maxRecDepth 20000 in
theorem gX3_turnFrom_X3_isSooner : GoodIn wsX3_turnFrom (wsV RX3 78 RX3 yX3_isSooner wsX3_isSooner) := goodIn_app (goodIn_of _ (by decide +kernel)) ggX3_turnFrom_X3_isSooner
theorem dX3_turnFrom_0 : decode cX3_turnFrom 0 = .ok (.aload_n 0, 1) := by decide +kernel
theorem dX3_turnFrom_1 : decode cX3_turnFrom 1 = .ok (.getfield 19, 3) := by decide +kernel
theorem dX3_turnFrom_4 : decode cX3_turnFrom 4 = .ok (.iload_n 1, 1) := by decide +kernel
theorem dX3_turnFrom_5 : decode cX3_turnFrom 5 = .ok (.iaload, 1) := by decide +kernel
theorem dX3_turnFrom_6 : decode cX3_turnFrom 6 = .ok (.iconst 1, 1) := by decide +kernel
theorem dX3_turnFrom_7 : decode cX3_turnFrom 7 = .ok (.iload_n 2, 1) := by decide +kernel
theorem dX3_turnFrom_8 : decode cX3_turnFrom 8 = .ok (.ishl, 1) := by decide +kernel
theorem dX3_turnFrom_9 : decode cX3_turnFrom 9 = .ok (.iconst (-1), 1) := by decide +kernel
theorem dX3_turnFrom_10 : decode cX3_turnFrom 10 = .ok (.ixor, 1) := by decide +kernel
theorem dX3_turnFrom_11 : decode cX3_turnFrom 11 = .ok (.iand, 1) := by decide +kernel
theorem dX3_turnFrom_12 : decode cX3_turnFrom 12 = .ok (.istore_n 3, 1) := by decide +kernel
theorem dX3_turnFrom_13 : decode cX3_turnFrom 13 = .ok (.iconst (-1), 1) := by decide +kernel
theorem dX3_turnFrom_14 : decode cX3_turnFrom 14 = .ok (.istore 4, 2) := by decide +kernel
theorem dX3_turnFrom_16 : decode cX3_turnFrom 16 = .ok (.iconst 0, 1) := by decide +kernel
theorem dX3_turnFrom_17 : decode cX3_turnFrom 17 = .ok (.istore 5, 2) := by decide +kernel
theorem dX3_turnFrom_19 : decode cX3_turnFrom 19 = .ok (.iconst 0, 1) := by decide +kernel
theorem dX3_turnFrom_20 : decode cX3_turnFrom 20 = .ok (.istore 6, 2) := by decide +kernel
theorem dX3_turnFrom_22 : decode cX3_turnFrom 22 = .ok (.iload 6, 2) := by decide +kernel
theorem dX3_turnFrom_24 : decode cX3_turnFrom 24 = .ok (.aload_n 0, 1) := by decide +kernel
theorem dX3_turnFrom_25 : decode cX3_turnFrom 25 = .ok (.getfield 9, 3) := by decide +kernel
theorem dX3_turnFrom_28 : decode cX3_turnFrom 28 = .ok (.getfield 31, 3) := by decide +kernel
theorem dX3_turnFrom_31 : decode cX3_turnFrom 31 = .ok (.if_icmp .ge 72, 3) := by decide +kernel
theorem dX3_turnFrom_34 : decode cX3_turnFrom 34 = .ok (.iload_n 3, 1) := by decide +kernel
theorem dX3_turnFrom_35 : decode cX3_turnFrom 35 = .ok (.iload 6, 2) := by decide +kernel
theorem dX3_turnFrom_37 : decode cX3_turnFrom 37 = .ok (.invokestatic 72, 3) := by decide +kernel
theorem dX3_turnFrom_40 : decode cX3_turnFrom 40 = .ok (.ifCond .ne 6, 3) := by decide +kernel
theorem dX3_turnFrom_43 : decode cX3_turnFrom 43 = .ok (.goto 54, 3) := by decide +kernel
theorem dX3_turnFrom_46 : decode cX3_turnFrom 46 = .ok (.aload_n 0, 1) := by decide +kernel
theorem dX3_turnFrom_47 : decode cX3_turnFrom 47 = .ok (.iload_n 1, 1) := by decide +kernel
theorem dX3_turnFrom_48 : decode cX3_turnFrom 48 = .ok (.iload_n 2, 1) := by decide +kernel
theorem dX3_turnFrom_49 : decode cX3_turnFrom 49 = .ok (.iload 6, 2) := by decide +kernel
theorem dX3_turnFrom_51 : decode cX3_turnFrom 51 = .ok (.invokevirtual 75, 3) := by decide +kernel
theorem dX3_turnFrom_54 : decode cX3_turnFrom 54 = .ok (.istore 7, 2) := by decide +kernel
theorem dX3_turnFrom_56 : decode cX3_turnFrom 56 = .ok (.iload 4, 2) := by decide +kernel
theorem dX3_turnFrom_58 : decode cX3_turnFrom 58 = .ok (.iconst (-1), 1) := by decide +kernel
theorem dX3_turnFrom_59 : decode cX3_turnFrom 59 = .ok (.if_icmp .eq 30, 3) := by decide +kernel
theorem dX3_turnFrom_62 : decode cX3_turnFrom 62 = .ok (.iload 7, 2) := by decide +kernel
theorem dX3_turnFrom_64 : decode cX3_turnFrom 64 = .ok (.iload 5, 2) := by decide +kernel
theorem dX3_turnFrom_66 : decode cX3_turnFrom 66 = .ok (.if_icmp .ne 18, 3) := by decide +kernel
theorem dX3_turnFrom_69 : decode cX3_turnFrom 69 = .ok (.aload_n 0, 1) := by decide +kernel
theorem dX3_turnFrom_70 : decode cX3_turnFrom 70 = .ok (.iload_n 1, 1) := by decide +kernel
theorem dX3_turnFrom_71 : decode cX3_turnFrom 71 = .ok (.iload 6, 2) := by decide +kernel
theorem dX3_turnFrom_73 : decode cX3_turnFrom 73 = .ok (.iload 4, 2) := by decide +kernel
theorem dX3_turnFrom_75 : decode cX3_turnFrom 75 = .ok (.invokevirtual 78, 3) := by decide +kernel
theorem dX3_turnFrom_78 : decode cX3_turnFrom 78 = .ok (.ifCond .eq 19, 3) := by decide +kernel
theorem dX3_turnFrom_81 : decode cX3_turnFrom 81 = .ok (.goto 8, 3) := by decide +kernel
theorem dX3_turnFrom_84 : decode cX3_turnFrom 84 = .ok (.iload 5, 2) := by decide +kernel
theorem dX3_turnFrom_86 : decode cX3_turnFrom 86 = .ok (.ifCond .eq 11, 3) := by decide +kernel
theorem dX3_turnFrom_89 : decode cX3_turnFrom 89 = .ok (.iload 6, 2) := by decide +kernel
theorem dX3_turnFrom_91 : decode cX3_turnFrom 91 = .ok (.istore 4, 2) := by decide +kernel
theorem dX3_turnFrom_93 : decode cX3_turnFrom 93 = .ok (.iload 7, 2) := by decide +kernel
theorem dX3_turnFrom_95 : decode cX3_turnFrom 95 = .ok (.istore 5, 2) := by decide +kernel
theorem dX3_turnFrom_97 : decode cX3_turnFrom 97 = .ok (.iinc 6 1, 3) := by decide +kernel
theorem dX3_turnFrom_100 : decode cX3_turnFrom 100 = .ok (.goto (-78), 3) := by decide +kernel
theorem dX3_turnFrom_103 : decode cX3_turnFrom 103 = .ok (.iload 4, 2) := by decide +kernel
theorem dX3_turnFrom_105 : decode cX3_turnFrom 105 = .ok (.iconst (-1), 1) := by decide +kernel
theorem dX3_turnFrom_106 : decode cX3_turnFrom 106 = .ok (.if_icmp .eq 6, 3) := by decide +kernel
theorem dX3_turnFrom_109 : decode cX3_turnFrom 109 = .ok (.iload 4, 2) := by decide +kernel
theorem dX3_turnFrom_111 : decode cX3_turnFrom 111 = .ok (.ireturn, 1) := by decide +kernel
theorem dX3_turnFrom_112 : decode cX3_turnFrom 112 = .ok (.aload_n 0, 1) := by decide +kernel
theorem dX3_turnFrom_113 : decode cX3_turnFrom 113 = .ok (.getfield 19, 3) := by decide +kernel
theorem dX3_turnFrom_116 : decode cX3_turnFrom 116 = .ok (.iload_n 1, 1) := by decide +kernel
theorem dX3_turnFrom_117 : decode cX3_turnFrom 117 = .ok (.iaload, 1) := by decide +kernel
theorem dX3_turnFrom_118 : decode cX3_turnFrom 118 = .ok (.iload_n 2, 1) := by decide +kernel
theorem dX3_turnFrom_119 : decode cX3_turnFrom 119 = .ok (.invokestatic 72, 3) := by decide +kernel
theorem dX3_turnFrom_122 : decode cX3_turnFrom 122 = .ok (.ifCond .eq 7, 3) := by decide +kernel
theorem dX3_turnFrom_125 : decode cX3_turnFrom 125 = .ok (.iload_n 2, 1) := by decide +kernel
theorem dX3_turnFrom_126 : decode cX3_turnFrom 126 = .ok (.goto 4, 3) := by decide +kernel
theorem dX3_turnFrom_129 : decode cX3_turnFrom 129 = .ok (.iconst (-1), 1) := by decide +kernel
theorem dX3_turnFrom_130 : decode cX3_turnFrom 130 = .ok (.ireturn, 1) := by decide +kernel
set_option maxRecDepth 20000 in
theorem ggX3_isHalfRound_X1_sideOf : GoodIn wsX3_isHalfRound wsX1_sideOf := goodIn_r _ [5, 6, 7, 15, 16, 17, 18, 19, 20, 21] (by decide +kernel) (by decide +kernel)
set_option maxRecDepth 20000 in
theorem gX3_isHalfRound_X1_sideOf_n81 : GoodIn wsX3_isHalfRound (wsX1_sideOf) := ggX3_isHalfRound_X1_sideOf
set_option maxRecDepth 20000 in
theorem ggX3_isHalfRound_X1_aheadOf : GoodIn wsX3_isHalfRound wsX1_aheadOf := goodIn_r _ [10, 6, 7, 15, 16, 17, 18, 19, 20, 21] (by decide +kernel) (by decide +kernel)
set_option maxRecDepth 20000 in
theorem gX3_isHalfRound_X1_aheadOf_n85 : GoodIn wsX3_isHalfRound (wsX1_aheadOf) := ggX3_isHalfRound_X1_aheadOf
theorem dX3_isHalfRound_0 : decode cX3_isHalfRound 0 = .ok (.aload_n 0, 1) := by decide +kernel
theorem dX3_isHalfRound_1 : decode cX3_isHalfRound 1 = .ok (.getfield 9, 3) := by decide +kernel
theorem dX3_isHalfRound_4 : decode cX3_isHalfRound 4 = .ok (.iload_n 1, 1) := by decide +kernel
theorem dX3_isHalfRound_5 : decode cX3_isHalfRound 5 = .ok (.iload_n 2, 1) := by decide +kernel
theorem dX3_isHalfRound_6 : decode cX3_isHalfRound 6 = .ok (.iload_n 3, 1) := by decide +kernel
theorem dX3_isHalfRound_7 : decode cX3_isHalfRound 7 = .ok (.invokevirtual 81, 3) := by decide +kernel
theorem dX3_isHalfRound_10 : decode cX3_isHalfRound 10 = .ok (.istore 4, 2) := by decide +kernel
theorem dX3_isHalfRound_12 : decode cX3_isHalfRound 12 = .ok (.iload 4, 2) := by decide +kernel
theorem dX3_isHalfRound_14 : decode cX3_isHalfRound 14 = .ok (.ifCond .lt 21, 3) := by decide +kernel
theorem dX3_isHalfRound_17 : decode cX3_isHalfRound 17 = .ok (.iload 4, 2) := by decide +kernel
theorem dX3_isHalfRound_19 : decode cX3_isHalfRound 19 = .ok (.ifCond .ne 20, 3) := by decide +kernel
theorem dX3_isHalfRound_22 : decode cX3_isHalfRound 22 = .ok (.aload_n 0, 1) := by decide +kernel
theorem dX3_isHalfRound_23 : decode cX3_isHalfRound 23 = .ok (.getfield 9, 3) := by decide +kernel
theorem dX3_isHalfRound_26 : decode cX3_isHalfRound 26 = .ok (.iload_n 1, 1) := by decide +kernel
theorem dX3_isHalfRound_27 : decode cX3_isHalfRound 27 = .ok (.iload_n 2, 1) := by decide +kernel
theorem dX3_isHalfRound_28 : decode cX3_isHalfRound 28 = .ok (.iload_n 3, 1) := by decide +kernel
theorem dX3_isHalfRound_29 : decode cX3_isHalfRound 29 = .ok (.invokevirtual 85, 3) := by decide +kernel
theorem dX3_isHalfRound_32 : decode cX3_isHalfRound 32 = .ok (.ifCond .ge 7, 3) := by decide +kernel
theorem dX3_isHalfRound_35 : decode cX3_isHalfRound 35 = .ok (.iconst 1, 1) := by decide +kernel
theorem dX3_isHalfRound_36 : decode cX3_isHalfRound 36 = .ok (.goto 4, 3) := by decide +kernel
theorem dX3_isHalfRound_39 : decode cX3_isHalfRound 39 = .ok (.iconst 0, 1) := by decide +kernel
theorem dX3_isHalfRound_40 : decode cX3_isHalfRound 40 = .ok (.ireturn, 1) := by decide +kernel
set_option maxRecDepth 20000 in
theorem ggX3_isSooner_X1_sideOf : GoodIn wsX3_isSooner wsX1_sideOf := goodIn_r _ [5, 6, 7, 15, 16, 17, 18, 19, 20, 21] (by decide +kernel) (by decide +kernel)
set_option maxRecDepth 20000 in
theorem gX3_isSooner_X1_sideOf_n81 : GoodIn wsX3_isSooner (wsX1_sideOf) := ggX3_isSooner_X1_sideOf
set_option maxRecDepth 20000 in
theorem ggX3_isSooner_X1_apart : GoodIn wsX3_isSooner wsX1_apart := goodIn_r _ [10, 6, 7, 15, 16, 17, 18, 19, 20, 21] (by decide +kernel) (by decide +kernel)
set_option maxRecDepth 20000 in
theorem gX3_isSooner_X1_apart_n52 : GoodIn wsX3_isSooner (wsX1_apart) := ggX3_isSooner_X1_apart
theorem dX3_isSooner_0 : decode cX3_isSooner 0 = .ok (.aload_n 0, 1) := by decide +kernel
theorem dX3_isSooner_1 : decode cX3_isSooner 1 = .ok (.getfield 9, 3) := by decide +kernel
theorem dX3_isSooner_4 : decode cX3_isSooner 4 = .ok (.iload_n 1, 1) := by decide +kernel
theorem dX3_isSooner_5 : decode cX3_isSooner 5 = .ok (.iload_n 2, 1) := by decide +kernel
theorem dX3_isSooner_6 : decode cX3_isSooner 6 = .ok (.iload_n 3, 1) := by decide +kernel
theorem dX3_isSooner_7 : decode cX3_isSooner 7 = .ok (.invokevirtual 81, 3) := by decide +kernel
theorem dX3_isSooner_10 : decode cX3_isSooner 10 = .ok (.istore 4, 2) := by decide +kernel
theorem dX3_isSooner_12 : decode cX3_isSooner 12 = .ok (.iload 4, 2) := by decide +kernel
theorem dX3_isSooner_14 : decode cX3_isSooner 14 = .ok (.ifCond .gt 29, 3) := by decide +kernel
theorem dX3_isSooner_17 : decode cX3_isSooner 17 = .ok (.iload 4, 2) := by decide +kernel
theorem dX3_isSooner_19 : decode cX3_isSooner 19 = .ok (.ifCond .ne 28, 3) := by decide +kernel
theorem dX3_isSooner_22 : decode cX3_isSooner 22 = .ok (.aload_n 0, 1) := by decide +kernel
theorem dX3_isSooner_23 : decode cX3_isSooner 23 = .ok (.getfield 9, 3) := by decide +kernel
theorem dX3_isSooner_26 : decode cX3_isSooner 26 = .ok (.iload_n 1, 1) := by decide +kernel
theorem dX3_isSooner_27 : decode cX3_isSooner 27 = .ok (.iload_n 2, 1) := by decide +kernel
theorem dX3_isSooner_28 : decode cX3_isSooner 28 = .ok (.invokevirtual 52, 3) := by decide +kernel
theorem dX3_isSooner_31 : decode cX3_isSooner 31 = .ok (.aload_n 0, 1) := by decide +kernel
theorem dX3_isSooner_32 : decode cX3_isSooner 32 = .ok (.getfield 9, 3) := by decide +kernel
theorem dX3_isSooner_35 : decode cX3_isSooner 35 = .ok (.iload_n 1, 1) := by decide +kernel
theorem dX3_isSooner_36 : decode cX3_isSooner 36 = .ok (.iload_n 3, 1) := by decide +kernel
theorem dX3_isSooner_37 : decode cX3_isSooner 37 = .ok (.invokevirtual 52, 3) := by decide +kernel
theorem dX3_isSooner_40 : decode cX3_isSooner 40 = .ok (.if_icmp .ge 7, 3) := by decide +kernel
theorem dX3_isSooner_43 : decode cX3_isSooner 43 = .ok (.iconst 1, 1) := by decide +kernel
theorem dX3_isSooner_44 : decode cX3_isSooner 44 = .ok (.goto 4, 3) := by decide +kernel
theorem dX3_isSooner_47 : decode cX3_isSooner 47 = .ok (.iconst 0, 1) := by decide +kernel
theorem dX3_isSooner_48 : decode cX3_isSooner 48 = .ok (.ireturn, 1) := by decide +kernel
set_option maxRecDepth 20000 in
theorem ggX3_faceLength_X3_turnFrom : GoodIn wsX3_faceLength wsX3_turnFrom := goodIn_r _ [6, 7, 8, 9, 10, 11, 12, 13, 14, 5, 15, 16, 17, 18, 19, 20, 21, 22, 23, 24, 25, 26, 27, 28, 29, 30, 31, 32, 33, 34, 35, 36, 37, 38, 39, 40, 41, 42] (by decide +kernel) (by decide +kernel)
set_option maxRecDepth 20000 in
theorem gX3_faceLength_X3_turnFrom : GoodIn wsX3_faceLength (wsV RX3 88 RX3 yX3_turnFrom wsX3_turnFrom) := goodIn_app (goodIn_of _ (by decide +kernel)) ggX3_faceLength_X3_turnFrom
theorem dX3_faceLength_0 : decode cX3_faceLength 0 = .ok (.iload_n 1, 1) := by decide +kernel
theorem dX3_faceLength_1 : decode cX3_faceLength 1 = .ok (.istore_n 3, 1) := by decide +kernel
theorem dX3_faceLength_2 : decode cX3_faceLength 2 = .ok (.iload_n 2, 1) := by decide +kernel
theorem dX3_faceLength_3 : decode cX3_faceLength 3 = .ok (.istore 4, 2) := by decide +kernel
theorem dX3_faceLength_5 : decode cX3_faceLength 5 = .ok (.iconst 1, 1) := by decide +kernel
theorem dX3_faceLength_6 : decode cX3_faceLength 6 = .ok (.istore 5, 2) := by decide +kernel
theorem dX3_faceLength_8 : decode cX3_faceLength 8 = .ok (.iload 5, 2) := by decide +kernel
theorem dX3_faceLength_10 : decode cX3_faceLength 10 = .ok (.bipush 90, 2) := by decide +kernel
theorem dX3_faceLength_12 : decode cX3_faceLength 12 = .ok (.if_icmp .gt 59, 3) := by decide +kernel
theorem dX3_faceLength_15 : decode cX3_faceLength 15 = .ok (.aload_n 0, 1) := by decide +kernel
theorem dX3_faceLength_16 : decode cX3_faceLength 16 = .ok (.getfield 22, 3) := by decide +kernel
theorem dX3_faceLength_19 : decode cX3_faceLength 19 = .ok (.iload_n 3, 1) := by decide +kernel
theorem dX3_faceLength_20 : decode cX3_faceLength 20 = .ok (.dup2, 1) := by decide +kernel
theorem dX3_faceLength_21 : decode cX3_faceLength 21 = .ok (.iaload, 1) := by decide +kernel
theorem dX3_faceLength_22 : decode cX3_faceLength 22 = .ok (.iconst 1, 1) := by decide +kernel
theorem dX3_faceLength_23 : decode cX3_faceLength 23 = .ok (.iload 4, 2) := by decide +kernel
theorem dX3_faceLength_25 : decode cX3_faceLength 25 = .ok (.ishl, 1) := by decide +kernel
theorem dX3_faceLength_26 : decode cX3_faceLength 26 = .ok (.ior, 1) := by decide +kernel
theorem dX3_faceLength_27 : decode cX3_faceLength 27 = .ok (.iastore, 1) := by decide +kernel
theorem dX3_faceLength_28 : decode cX3_faceLength 28 = .ok (.aload_n 0, 1) := by decide +kernel
theorem dX3_faceLength_29 : decode cX3_faceLength 29 = .ok (.iload 4, 2) := by decide +kernel
theorem dX3_faceLength_31 : decode cX3_faceLength 31 = .ok (.iload_n 3, 1) := by decide +kernel
theorem dX3_faceLength_32 : decode cX3_faceLength 32 = .ok (.invokevirtual 88, 3) := by decide +kernel
theorem dX3_faceLength_35 : decode cX3_faceLength 35 = .ok (.istore 6, 2) := by decide +kernel
theorem dX3_faceLength_37 : decode cX3_faceLength 37 = .ok (.iload 6, 2) := by decide +kernel
theorem dX3_faceLength_39 : decode cX3_faceLength 39 = .ok (.iconst (-1), 1) := by decide +kernel
theorem dX3_faceLength_40 : decode cX3_faceLength 40 = .ok (.if_icmp .eq 15, 3) := by decide +kernel
theorem dX3_faceLength_43 : decode cX3_faceLength 43 = .ok (.iload 4, 2) := by decide +kernel
theorem dX3_faceLength_45 : decode cX3_faceLength 45 = .ok (.iload_n 1, 1) := by decide +kernel
theorem dX3_faceLength_46 : decode cX3_faceLength 46 = .ok (.if_icmp .ne 12, 3) := by decide +kernel
theorem dX3_faceLength_49 : decode cX3_faceLength 49 = .ok (.iload 6, 2) := by decide +kernel
theorem dX3_faceLength_51 : decode cX3_faceLength 51 = .ok (.iload_n 2, 1) := by decide +kernel
theorem dX3_faceLength_52 : decode cX3_faceLength 52 = .ok (.if_icmp .ne 6, 3) := by decide +kernel
theorem dX3_faceLength_55 : decode cX3_faceLength 55 = .ok (.iload 5, 2) := by decide +kernel
theorem dX3_faceLength_57 : decode cX3_faceLength 57 = .ok (.ireturn, 1) := by decide +kernel
theorem dX3_faceLength_58 : decode cX3_faceLength 58 = .ok (.iload 4, 2) := by decide +kernel
theorem dX3_faceLength_60 : decode cX3_faceLength 60 = .ok (.istore_n 3, 1) := by decide +kernel
theorem dX3_faceLength_61 : decode cX3_faceLength 61 = .ok (.iload 6, 2) := by decide +kernel
theorem dX3_faceLength_63 : decode cX3_faceLength 63 = .ok (.istore 4, 2) := by decide +kernel
theorem dX3_faceLength_65 : decode cX3_faceLength 65 = .ok (.iinc 5 1, 3) := by decide +kernel
theorem dX3_faceLength_68 : decode cX3_faceLength 68 = .ok (.goto (-60), 3) := by decide +kernel
theorem dX3_faceLength_71 : decode cX3_faceLength 71 = .ok (.bipush 90, 2) := by decide +kernel
theorem dX3_faceLength_73 : decode cX3_faceLength 73 = .ok (.ireturn, 1) := by decide +kernel
set_option maxRecDepth 20000 in
theorem ggX3_countFaces_J7_fill_53178 : GoodIn wsX3_countFaces wsJ7_fill_53178 := goodIn_r _ [7] (by decide +kernel) (by decide +kernel)
set_option maxRecDepth 20000 in
theorem gX3_countFaces_J7_fill_53178 : GoodIn wsX3_countFaces (va_wsS RX3 25 yJ7_fill_53178 wsJ7_fill_53178) := goodIn_app (goodIn_of _ (by decide +kernel)) ggX3_countFaces_J7_fill_53178
set_option maxRecDepth 20000 in
theorem ggX3_countFaces_X5_holds : GoodIn wsX3_countFaces wsX5_holds := goodIn_r _ [10] (by decide +kernel) (by decide +kernel)
set_option maxRecDepth 20000 in
theorem gX3_countFaces_X5_holds_n72 : GoodIn wsX3_countFaces (wsX5_holds) := ggX3_countFaces_X5_holds
set_option maxRecDepth 20000 in
theorem ggX3_countFaces_X3_faceLength : GoodIn wsX3_countFaces wsX3_faceLength := goodIn_r _ [15, 1, 16, 17, 18, 14, 19, 3, 2, 8, 9, 10, 20, 21, 22, 23, 24, 25, 26, 27, 28, 29, 30, 31, 32, 33, 34, 35, 36, 37, 38, 39, 40, 41, 42, 43, 44, 45, 46, 47, 48, 49, 50] (by decide +kernel) (by decide +kernel)
set_option maxRecDepth 20000 in
theorem gX3_countFaces_X3_faceLength : GoodIn wsX3_countFaces (wsV RX3 91 RX3 yX3_faceLength wsX3_faceLength) := goodIn_app (goodIn_of _ (by decide +kernel)) ggX3_countFaces_X3_faceLength
theorem dX3_countFaces_0 : decode cX3_countFaces 0 = .ok (.iconst 0, 1) := by decide +kernel
theorem dX3_countFaces_1 : decode cX3_countFaces 1 = .ok (.istore_n 1, 1) := by decide +kernel
theorem dX3_countFaces_2 : decode cX3_countFaces 2 = .ok (.aload_n 0, 1) := by decide +kernel
theorem dX3_countFaces_3 : decode cX3_countFaces 3 = .ok (.getfield 22, 3) := by decide +kernel
theorem dX3_countFaces_6 : decode cX3_countFaces 6 = .ok (.iconst 0, 1) := by decide +kernel
theorem dX3_countFaces_7 : decode cX3_countFaces 7 = .ok (.invokestatic 25, 3) := by decide +kernel
theorem dX3_countFaces_10 : decode cX3_countFaces 10 = .ok (.iconst 0, 1) := by decide +kernel
theorem dX3_countFaces_11 : decode cX3_countFaces 11 = .ok (.istore_n 2, 1) := by decide +kernel
theorem dX3_countFaces_12 : decode cX3_countFaces 12 = .ok (.iload_n 2, 1) := by decide +kernel
theorem dX3_countFaces_13 : decode cX3_countFaces 13 = .ok (.aload_n 0, 1) := by decide +kernel
theorem dX3_countFaces_14 : decode cX3_countFaces 14 = .ok (.getfield 9, 3) := by decide +kernel
theorem dX3_countFaces_17 : decode cX3_countFaces 17 = .ok (.getfield 31, 3) := by decide +kernel
theorem dX3_countFaces_20 : decode cX3_countFaces 20 = .ok (.if_icmp .ge 60, 3) := by decide +kernel
theorem dX3_countFaces_23 : decode cX3_countFaces 23 = .ok (.iconst 0, 1) := by decide +kernel
theorem dX3_countFaces_24 : decode cX3_countFaces 24 = .ok (.istore_n 3, 1) := by decide +kernel
theorem dX3_countFaces_25 : decode cX3_countFaces 25 = .ok (.iload_n 3, 1) := by decide +kernel
theorem dX3_countFaces_26 : decode cX3_countFaces 26 = .ok (.aload_n 0, 1) := by decide +kernel
theorem dX3_countFaces_27 : decode cX3_countFaces 27 = .ok (.getfield 9, 3) := by decide +kernel
theorem dX3_countFaces_30 : decode cX3_countFaces 30 = .ok (.getfield 31, 3) := by decide +kernel
theorem dX3_countFaces_33 : decode cX3_countFaces 33 = .ok (.if_icmp .ge 41, 3) := by decide +kernel
theorem dX3_countFaces_36 : decode cX3_countFaces 36 = .ok (.aload_n 0, 1) := by decide +kernel
theorem dX3_countFaces_37 : decode cX3_countFaces 37 = .ok (.getfield 19, 3) := by decide +kernel
theorem dX3_countFaces_40 : decode cX3_countFaces 40 = .ok (.iload_n 2, 1) := by decide +kernel
theorem dX3_countFaces_41 : decode cX3_countFaces 41 = .ok (.iaload, 1) := by decide +kernel
theorem dX3_countFaces_42 : decode cX3_countFaces 42 = .ok (.aload_n 0, 1) := by decide +kernel
theorem dX3_countFaces_43 : decode cX3_countFaces 43 = .ok (.getfield 22, 3) := by decide +kernel
theorem dX3_countFaces_46 : decode cX3_countFaces 46 = .ok (.iload_n 2, 1) := by decide +kernel
theorem dX3_countFaces_47 : decode cX3_countFaces 47 = .ok (.iaload, 1) := by decide +kernel
theorem dX3_countFaces_48 : decode cX3_countFaces 48 = .ok (.iconst (-1), 1) := by decide +kernel
theorem dX3_countFaces_49 : decode cX3_countFaces 49 = .ok (.ixor, 1) := by decide +kernel
theorem dX3_countFaces_50 : decode cX3_countFaces 50 = .ok (.iand, 1) := by decide +kernel
theorem dX3_countFaces_51 : decode cX3_countFaces 51 = .ok (.iload_n 3, 1) := by decide +kernel
theorem dX3_countFaces_52 : decode cX3_countFaces 52 = .ok (.invokestatic 72, 3) := by decide +kernel
theorem dX3_countFaces_55 : decode cX3_countFaces 55 = .ok (.ifCond .eq 13, 3) := by decide +kernel
theorem dX3_countFaces_58 : decode cX3_countFaces 58 = .ok (.iinc 1 1, 3) := by decide +kernel
theorem dX3_countFaces_61 : decode cX3_countFaces 61 = .ok (.aload_n 0, 1) := by decide +kernel
theorem dX3_countFaces_62 : decode cX3_countFaces 62 = .ok (.iload_n 2, 1) := by decide +kernel
theorem dX3_countFaces_63 : decode cX3_countFaces 63 = .ok (.iload_n 3, 1) := by decide +kernel
theorem dX3_countFaces_64 : decode cX3_countFaces 64 = .ok (.invokevirtual 91, 3) := by decide +kernel
theorem dX3_countFaces_67 : decode cX3_countFaces 67 = .ok (.pop, 1) := by decide +kernel
theorem dX3_countFaces_68 : decode cX3_countFaces 68 = .ok (.iinc 3 1, 3) := by decide +kernel
theorem dX3_countFaces_71 : decode cX3_countFaces 71 = .ok (.goto (-46), 3) := by decide +kernel
theorem dX3_countFaces_74 : decode cX3_countFaces 74 = .ok (.iinc 2 1, 3) := by decide +kernel
theorem dX3_countFaces_77 : decode cX3_countFaces 77 = .ok (.goto (-65), 3) := by decide +kernel
theorem dX3_countFaces_80 : decode cX3_countFaces 80 = .ok (.iload_n 1, 1) := by decide +kernel
theorem dX3_countFaces_81 : decode cX3_countFaces 81 = .ok (.ireturn, 1) := by decide +kernel
set_option maxRecDepth 20000 in
theorem ggX3_greatestFace_J7_fill_53178 : GoodIn wsX3_greatestFace wsJ7_fill_53178 := goodIn_r _ [11] (by decide +kernel) (by decide +kernel)
set_option maxRecDepth 20000 in
theorem gX3_greatestFace_J7_fill_53178 : GoodIn wsX3_greatestFace (va_wsS RX3 25 yJ7_fill_53178 wsJ7_fill_53178) := goodIn_app (goodIn_of _ (by decide +kernel)) ggX3_greatestFace_J7_fill_53178
set_option maxRecDepth 20000 in
theorem ggX3_greatestFace_X5_holds : GoodIn wsX3_greatestFace wsX5_holds := goodIn_r _ [14] (by decide +kernel) (by decide +kernel)
set_option maxRecDepth 20000 in
theorem gX3_greatestFace_X5_holds_n72 : GoodIn wsX3_greatestFace (wsX5_holds) := ggX3_greatestFace_X5_holds
set_option maxRecDepth 20000 in
theorem ggX3_greatestFace_X3_faceLength : GoodIn wsX3_greatestFace wsX3_faceLength := goodIn_r _ [19, 1, 20, 21, 22, 18, 23, 3, 2, 12, 13, 14, 24, 25, 26, 27, 28, 29, 30, 31, 32, 33, 34, 35, 36, 37, 38, 39, 40, 41, 42, 43, 44, 45, 46, 47, 48, 49, 50, 51, 52, 53, 54] (by decide +kernel) (by decide +kernel)
set_option maxRecDepth 20000 in
theorem gX3_greatestFace_X3_faceLength : GoodIn wsX3_greatestFace (wsV RX3 91 RX3 yX3_faceLength wsX3_faceLength) := goodIn_app (goodIn_of _ (by decide +kernel)) ggX3_greatestFace_X3_faceLength
theorem dX3_greatestFace_0 : decode cX3_greatestFace 0 = .ok (.iconst 0, 1) := by decide +kernel
theorem dX3_greatestFace_1 : decode cX3_greatestFace 1 = .ok (.istore_n 1, 1) := by decide +kernel
theorem dX3_greatestFace_2 : decode cX3_greatestFace 2 = .ok (.aload_n 0, 1) := by decide +kernel
theorem dX3_greatestFace_3 : decode cX3_greatestFace 3 = .ok (.getfield 22, 3) := by decide +kernel
theorem dX3_greatestFace_6 : decode cX3_greatestFace 6 = .ok (.iconst 0, 1) := by decide +kernel
theorem dX3_greatestFace_7 : decode cX3_greatestFace 7 = .ok (.invokestatic 25, 3) := by decide +kernel
theorem dX3_greatestFace_10 : decode cX3_greatestFace 10 = .ok (.iconst 0, 1) := by decide +kernel
theorem dX3_greatestFace_11 : decode cX3_greatestFace 11 = .ok (.istore_n 2, 1) := by decide +kernel
theorem dX3_greatestFace_12 : decode cX3_greatestFace 12 = .ok (.iload_n 2, 1) := by decide +kernel
theorem dX3_greatestFace_13 : decode cX3_greatestFace 13 = .ok (.aload_n 0, 1) := by decide +kernel
theorem dX3_greatestFace_14 : decode cX3_greatestFace 14 = .ok (.getfield 9, 3) := by decide +kernel
theorem dX3_greatestFace_17 : decode cX3_greatestFace 17 = .ok (.getfield 31, 3) := by decide +kernel
theorem dX3_greatestFace_20 : decode cX3_greatestFace 20 = .ok (.if_icmp .ge 61, 3) := by decide +kernel
theorem dX3_greatestFace_23 : decode cX3_greatestFace 23 = .ok (.iconst 0, 1) := by decide +kernel
theorem dX3_greatestFace_24 : decode cX3_greatestFace 24 = .ok (.istore_n 3, 1) := by decide +kernel
theorem dX3_greatestFace_25 : decode cX3_greatestFace 25 = .ok (.iload_n 3, 1) := by decide +kernel
theorem dX3_greatestFace_26 : decode cX3_greatestFace 26 = .ok (.aload_n 0, 1) := by decide +kernel
theorem dX3_greatestFace_27 : decode cX3_greatestFace 27 = .ok (.getfield 9, 3) := by decide +kernel
theorem dX3_greatestFace_30 : decode cX3_greatestFace 30 = .ok (.getfield 31, 3) := by decide +kernel
theorem dX3_greatestFace_33 : decode cX3_greatestFace 33 = .ok (.if_icmp .ge 42, 3) := by decide +kernel
theorem dX3_greatestFace_36 : decode cX3_greatestFace 36 = .ok (.aload_n 0, 1) := by decide +kernel
theorem dX3_greatestFace_37 : decode cX3_greatestFace 37 = .ok (.getfield 19, 3) := by decide +kernel
theorem dX3_greatestFace_40 : decode cX3_greatestFace 40 = .ok (.iload_n 2, 1) := by decide +kernel
theorem dX3_greatestFace_41 : decode cX3_greatestFace 41 = .ok (.iaload, 1) := by decide +kernel
theorem dX3_greatestFace_42 : decode cX3_greatestFace 42 = .ok (.aload_n 0, 1) := by decide +kernel
theorem dX3_greatestFace_43 : decode cX3_greatestFace 43 = .ok (.getfield 22, 3) := by decide +kernel
theorem dX3_greatestFace_46 : decode cX3_greatestFace 46 = .ok (.iload_n 2, 1) := by decide +kernel
theorem dX3_greatestFace_47 : decode cX3_greatestFace 47 = .ok (.iaload, 1) := by decide +kernel
theorem dX3_greatestFace_48 : decode cX3_greatestFace 48 = .ok (.iconst (-1), 1) := by decide +kernel
theorem dX3_greatestFace_49 : decode cX3_greatestFace 49 = .ok (.ixor, 1) := by decide +kernel
theorem dX3_greatestFace_50 : decode cX3_greatestFace 50 = .ok (.iand, 1) := by decide +kernel
theorem dX3_greatestFace_51 : decode cX3_greatestFace 51 = .ok (.iload_n 3, 1) := by decide +kernel
theorem dX3_greatestFace_52 : decode cX3_greatestFace 52 = .ok (.invokestatic 72, 3) := by decide +kernel
theorem dX3_greatestFace_55 : decode cX3_greatestFace 55 = .ok (.ifCond .eq 14, 3) := by decide +kernel
theorem dX3_greatestFace_58 : decode cX3_greatestFace 58 = .ok (.iload_n 1, 1) := by decide +kernel
theorem dX3_greatestFace_59 : decode cX3_greatestFace 59 = .ok (.aload_n 0, 1) := by decide +kernel
theorem dX3_greatestFace_60 : decode cX3_greatestFace 60 = .ok (.iload_n 2, 1) := by decide +kernel
theorem dX3_greatestFace_61 : decode cX3_greatestFace 61 = .ok (.iload_n 3, 1) := by decide +kernel
theorem dX3_greatestFace_62 : decode cX3_greatestFace 62 = .ok (.invokevirtual 91, 3) := by decide +kernel
theorem dX3_greatestFace_65 : decode cX3_greatestFace 65 = .ok (.invokestatic 94, 3) := by decide +kernel
theorem dX3_greatestFace_68 : decode cX3_greatestFace 68 = .ok (.istore_n 1, 1) := by decide +kernel
theorem dX3_greatestFace_69 : decode cX3_greatestFace 69 = .ok (.iinc 3 1, 3) := by decide +kernel
theorem dX3_greatestFace_72 : decode cX3_greatestFace 72 = .ok (.goto (-47), 3) := by decide +kernel
theorem dX3_greatestFace_75 : decode cX3_greatestFace 75 = .ok (.iinc 2 1, 3) := by decide +kernel
theorem dX3_greatestFace_78 : decode cX3_greatestFace 78 = .ok (.goto (-66), 3) := by decide +kernel
theorem dX3_greatestFace_81 : decode cX3_greatestFace 81 = .ok (.iload_n 1, 1) := by decide +kernel
theorem dX3_greatestFace_82 : decode cX3_greatestFace 82 = .ok (.ireturn, 1) := by decide +kernel
set_option maxRecDepth 20000 in
theorem ggX3_countParts_X1_isAwake : GoodIn wsX3_countParts wsX1_isAwake := goodIn_r _ [5, 6, 7, 8, 9, 3, 10, 11, 12, 13, 14, 29, 30, 31, 32, 33, 34, 35] (by decide +kernel) (by decide +kernel)
set_option maxRecDepth 20000 in
theorem gX3_countParts_X1_isAwake_n48 : GoodIn wsX3_countParts (wsX1_isAwake) := ggX3_countParts_X1_isAwake
set_option maxRecDepth 20000 in
theorem ggX3_countParts_X5_holds : GoodIn wsX3_countParts wsX5_holds := goodIn_r _ [14] (by decide +kernel) (by decide +kernel)
set_option maxRecDepth 20000 in
theorem gX3_countParts_X5_holds_n72 : GoodIn wsX3_countParts (wsX5_holds) := ggX3_countParts_X5_holds
set_option maxRecDepth 20000 in
theorem ggX3_countParts_X3_partOf : GoodIn wsX3_countParts wsX3_partOf := goodIn_r _ [19, 20, 21, 22, 18, 23, 1, 24, 12, 13, 14, 25, 26, 27, 28, 29, 30, 31, 32, 33, 34, 35] (by decide +kernel) (by decide +kernel)
set_option maxRecDepth 20000 in
theorem gX3_countParts_X3_partOf : GoodIn wsX3_countParts (wsV RX3 99 RX3 yX3_partOf wsX3_partOf) := goodIn_app (goodIn_of _ (by decide +kernel)) ggX3_countParts_X3_partOf
theorem dX3_countParts_0 : decode cX3_countParts 0 = .ok (.iconst 0, 1) := by decide +kernel
theorem dX3_countParts_1 : decode cX3_countParts 1 = .ok (.istore_n 1, 1) := by decide +kernel
theorem dX3_countParts_2 : decode cX3_countParts 2 = .ok (.iconst 0, 1) := by decide +kernel
theorem dX3_countParts_3 : decode cX3_countParts 3 = .ok (.istore_n 2, 1) := by decide +kernel
theorem dX3_countParts_4 : decode cX3_countParts 4 = .ok (.iconst 0, 1) := by decide +kernel
theorem dX3_countParts_5 : decode cX3_countParts 5 = .ok (.istore_n 3, 1) := by decide +kernel
theorem dX3_countParts_6 : decode cX3_countParts 6 = .ok (.iload_n 3, 1) := by decide +kernel
theorem dX3_countParts_7 : decode cX3_countParts 7 = .ok (.aload_n 0, 1) := by decide +kernel
theorem dX3_countParts_8 : decode cX3_countParts 8 = .ok (.getfield 9, 3) := by decide +kernel
theorem dX3_countParts_11 : decode cX3_countParts 11 = .ok (.getfield 31, 3) := by decide +kernel
theorem dX3_countParts_14 : decode cX3_countParts 14 = .ok (.if_icmp .ge 39, 3) := by decide +kernel
theorem dX3_countParts_17 : decode cX3_countParts 17 = .ok (.aload_n 0, 1) := by decide +kernel
theorem dX3_countParts_18 : decode cX3_countParts 18 = .ok (.getfield 9, 3) := by decide +kernel
theorem dX3_countParts_21 : decode cX3_countParts 21 = .ok (.iload_n 3, 1) := by decide +kernel
theorem dX3_countParts_22 : decode cX3_countParts 22 = .ok (.invokevirtual 48, 3) := by decide +kernel
theorem dX3_countParts_25 : decode cX3_countParts 25 = .ok (.ifCond .eq 22, 3) := by decide +kernel
theorem dX3_countParts_28 : decode cX3_countParts 28 = .ok (.iload_n 2, 1) := by decide +kernel
theorem dX3_countParts_29 : decode cX3_countParts 29 = .ok (.iload_n 3, 1) := by decide +kernel
theorem dX3_countParts_30 : decode cX3_countParts 30 = .ok (.invokestatic 72, 3) := by decide +kernel
theorem dX3_countParts_33 : decode cX3_countParts 33 = .ok (.ifCond .ne 14, 3) := by decide +kernel
theorem dX3_countParts_36 : decode cX3_countParts 36 = .ok (.iinc 1 1, 3) := by decide +kernel
theorem dX3_countParts_39 : decode cX3_countParts 39 = .ok (.iload_n 2, 1) := by decide +kernel
theorem dX3_countParts_40 : decode cX3_countParts 40 = .ok (.aload_n 0, 1) := by decide +kernel
theorem dX3_countParts_41 : decode cX3_countParts 41 = .ok (.iload_n 3, 1) := by decide +kernel
theorem dX3_countParts_42 : decode cX3_countParts 42 = .ok (.invokevirtual 99, 3) := by decide +kernel
theorem dX3_countParts_45 : decode cX3_countParts 45 = .ok (.ior, 1) := by decide +kernel
theorem dX3_countParts_46 : decode cX3_countParts 46 = .ok (.istore_n 2, 1) := by decide +kernel
theorem dX3_countParts_47 : decode cX3_countParts 47 = .ok (.iinc 3 1, 3) := by decide +kernel
theorem dX3_countParts_50 : decode cX3_countParts 50 = .ok (.goto (-44), 3) := by decide +kernel
theorem dX3_countParts_53 : decode cX3_countParts 53 = .ok (.iload_n 1, 1) := by decide +kernel
theorem dX3_countParts_54 : decode cX3_countParts 54 = .ok (.ireturn, 1) := by decide +kernel
set_option maxRecDepth 20000 in
theorem ggX3_partOf_X3_linkedWithAny : GoodIn wsX3_partOf wsX3_linkedWithAny := goodIn_r _ [5, 6, 7, 8, 9, 10, 11, 12, 13, 14, 15, 16, 17, 18, 19, 20, 21] (by decide +kernel) (by decide +kernel)
set_option maxRecDepth 20000 in
theorem gX3_partOf_X3_linkedWithAny : GoodIn wsX3_partOf (wsV RX3 102 RX3 yX3_linkedWithAny wsX3_linkedWithAny) := goodIn_app (goodIn_of _ (by decide +kernel)) ggX3_partOf_X3_linkedWithAny
theorem dX3_partOf_0 : decode cX3_partOf 0 = .ok (.iconst 1, 1) := by decide +kernel
theorem dX3_partOf_1 : decode cX3_partOf 1 = .ok (.iload_n 1, 1) := by decide +kernel
theorem dX3_partOf_2 : decode cX3_partOf 2 = .ok (.ishl, 1) := by decide +kernel
theorem dX3_partOf_3 : decode cX3_partOf 3 = .ok (.istore_n 2, 1) := by decide +kernel
theorem dX3_partOf_4 : decode cX3_partOf 4 = .ok (.iconst 0, 1) := by decide +kernel
theorem dX3_partOf_5 : decode cX3_partOf 5 = .ok (.istore_n 3, 1) := by decide +kernel
theorem dX3_partOf_6 : decode cX3_partOf 6 = .ok (.iload_n 3, 1) := by decide +kernel
theorem dX3_partOf_7 : decode cX3_partOf 7 = .ok (.bipush 10, 2) := by decide +kernel
theorem dX3_partOf_9 : decode cX3_partOf 9 = .ok (.if_icmp .ge 17, 3) := by decide +kernel
theorem dX3_partOf_12 : decode cX3_partOf 12 = .ok (.iload_n 2, 1) := by decide +kernel
theorem dX3_partOf_13 : decode cX3_partOf 13 = .ok (.aload_n 0, 1) := by decide +kernel
theorem dX3_partOf_14 : decode cX3_partOf 14 = .ok (.iload_n 2, 1) := by decide +kernel
theorem dX3_partOf_15 : decode cX3_partOf 15 = .ok (.invokevirtual 102, 3) := by decide +kernel
theorem dX3_partOf_18 : decode cX3_partOf 18 = .ok (.ior, 1) := by decide +kernel
theorem dX3_partOf_19 : decode cX3_partOf 19 = .ok (.istore_n 2, 1) := by decide +kernel
theorem dX3_partOf_20 : decode cX3_partOf 20 = .ok (.iinc 3 1, 3) := by decide +kernel
theorem dX3_partOf_23 : decode cX3_partOf 23 = .ok (.goto (-17), 3) := by decide +kernel
theorem dX3_partOf_26 : decode cX3_partOf 26 = .ok (.iload_n 2, 1) := by decide +kernel
theorem dX3_partOf_27 : decode cX3_partOf 27 = .ok (.ireturn, 1) := by decide +kernel
set_option maxRecDepth 20000 in
theorem ggX3_linkedWithAny_X5_holds : GoodIn wsX3_linkedWithAny wsX5_holds := goodIn_r _ [5] (by decide +kernel) (by decide +kernel)
set_option maxRecDepth 20000 in
theorem gX3_linkedWithAny_X5_holds_n72 : GoodIn wsX3_linkedWithAny (wsX5_holds) := ggX3_linkedWithAny_X5_holds
theorem dX3_linkedWithAny_0 : decode cX3_linkedWithAny 0 = .ok (.iconst 0, 1) := by decide +kernel
theorem dX3_linkedWithAny_1 : decode cX3_linkedWithAny 1 = .ok (.istore_n 2, 1) := by decide +kernel
theorem dX3_linkedWithAny_2 : decode cX3_linkedWithAny 2 = .ok (.iconst 0, 1) := by decide +kernel
theorem dX3_linkedWithAny_3 : decode cX3_linkedWithAny 3 = .ok (.istore_n 3, 1) := by decide +kernel
theorem dX3_linkedWithAny_4 : decode cX3_linkedWithAny 4 = .ok (.iload_n 3, 1) := by decide +kernel
theorem dX3_linkedWithAny_5 : decode cX3_linkedWithAny 5 = .ok (.aload_n 0, 1) := by decide +kernel
theorem dX3_linkedWithAny_6 : decode cX3_linkedWithAny 6 = .ok (.getfield 9, 3) := by decide +kernel
theorem dX3_linkedWithAny_9 : decode cX3_linkedWithAny 9 = .ok (.getfield 31, 3) := by decide +kernel
theorem dX3_linkedWithAny_12 : decode cX3_linkedWithAny 12 = .ok (.if_icmp .ge 26, 3) := by decide +kernel
theorem dX3_linkedWithAny_15 : decode cX3_linkedWithAny 15 = .ok (.iload_n 1, 1) := by decide +kernel
theorem dX3_linkedWithAny_16 : decode cX3_linkedWithAny 16 = .ok (.iload_n 3, 1) := by decide +kernel
theorem dX3_linkedWithAny_17 : decode cX3_linkedWithAny 17 = .ok (.invokestatic 72, 3) := by decide +kernel
theorem dX3_linkedWithAny_20 : decode cX3_linkedWithAny 20 = .ok (.ifCond .eq 12, 3) := by decide +kernel
theorem dX3_linkedWithAny_23 : decode cX3_linkedWithAny 23 = .ok (.iload_n 2, 1) := by decide +kernel
theorem dX3_linkedWithAny_24 : decode cX3_linkedWithAny 24 = .ok (.aload_n 0, 1) := by decide +kernel
theorem dX3_linkedWithAny_25 : decode cX3_linkedWithAny 25 = .ok (.getfield 15, 3) := by decide +kernel
theorem dX3_linkedWithAny_28 : decode cX3_linkedWithAny 28 = .ok (.iload_n 3, 1) := by decide +kernel
theorem dX3_linkedWithAny_29 : decode cX3_linkedWithAny 29 = .ok (.iaload, 1) := by decide +kernel
theorem dX3_linkedWithAny_30 : decode cX3_linkedWithAny 30 = .ok (.ior, 1) := by decide +kernel
theorem dX3_linkedWithAny_31 : decode cX3_linkedWithAny 31 = .ok (.istore_n 2, 1) := by decide +kernel
theorem dX3_linkedWithAny_32 : decode cX3_linkedWithAny 32 = .ok (.iinc 3 1, 3) := by decide +kernel
theorem dX3_linkedWithAny_35 : decode cX3_linkedWithAny 35 = .ok (.goto (-31), 3) := by decide +kernel
theorem dX3_linkedWithAny_38 : decode cX3_linkedWithAny 38 = .ok (.iload_n 2, 1) := by decide +kernel
theorem dX3_linkedWithAny_39 : decode cX3_linkedWithAny 39 = .ok (.ireturn, 1) := by decide +kernel
set_option maxRecDepth 20000 in
theorem ggX3_fewestLinks_X5_holds : GoodIn wsX3_fewestLinks wsX5_holds := goodIn_r _ [3] (by decide +kernel) (by decide +kernel)
set_option maxRecDepth 20000 in
theorem gX3_fewestLinks_X5_holds_n72 : GoodIn wsX3_fewestLinks (wsX5_holds) := ggX3_fewestLinks_X5_holds
set_option maxRecDepth 20000 in
theorem ggX3_fewestLinks_X3_linkedWithAny : GoodIn wsX3_fewestLinks wsX3_linkedWithAny := goodIn_r _ [8, 9, 10, 1, 2, 3, 11, 12, 13, 14, 15, 16, 17, 18, 19, 20, 21] (by decide +kernel) (by decide +kernel)
set_option maxRecDepth 20000 in
theorem gX3_fewestLinks_X3_linkedWithAny : GoodIn wsX3_fewestLinks (wsV RX3 102 RX3 yX3_linkedWithAny wsX3_linkedWithAny) := goodIn_app (goodIn_of _ (by decide +kernel)) ggX3_fewestLinks_X3_linkedWithAny
theorem dX3_fewestLinks_0 : decode cX3_fewestLinks 0 = .ok (.iconst 1, 1) := by decide +kernel
theorem dX3_fewestLinks_1 : decode cX3_fewestLinks 1 = .ok (.iload_n 1, 1) := by decide +kernel
theorem dX3_fewestLinks_2 : decode cX3_fewestLinks 2 = .ok (.ishl, 1) := by decide +kernel
theorem dX3_fewestLinks_3 : decode cX3_fewestLinks 3 = .ok (.istore_n 3, 1) := by decide +kernel
theorem dX3_fewestLinks_4 : decode cX3_fewestLinks 4 = .ok (.iconst 0, 1) := by decide +kernel
theorem dX3_fewestLinks_5 : decode cX3_fewestLinks 5 = .ok (.istore 4, 2) := by decide +kernel
theorem dX3_fewestLinks_7 : decode cX3_fewestLinks 7 = .ok (.iload 4, 2) := by decide +kernel
theorem dX3_fewestLinks_9 : decode cX3_fewestLinks 9 = .ok (.bipush 10, 2) := by decide +kernel
theorem dX3_fewestLinks_11 : decode cX3_fewestLinks 11 = .ok (.if_icmp .ge 28, 3) := by decide +kernel
theorem dX3_fewestLinks_14 : decode cX3_fewestLinks 14 = .ok (.iload_n 3, 1) := by decide +kernel
theorem dX3_fewestLinks_15 : decode cX3_fewestLinks 15 = .ok (.iload_n 2, 1) := by decide +kernel
theorem dX3_fewestLinks_16 : decode cX3_fewestLinks 16 = .ok (.invokestatic 72, 3) := by decide +kernel
theorem dX3_fewestLinks_19 : decode cX3_fewestLinks 19 = .ok (.ifCond .eq 6, 3) := by decide +kernel
theorem dX3_fewestLinks_22 : decode cX3_fewestLinks 22 = .ok (.iload 4, 2) := by decide +kernel
theorem dX3_fewestLinks_24 : decode cX3_fewestLinks 24 = .ok (.ireturn, 1) := by decide +kernel
theorem dX3_fewestLinks_25 : decode cX3_fewestLinks 25 = .ok (.iload_n 3, 1) := by decide +kernel
theorem dX3_fewestLinks_26 : decode cX3_fewestLinks 26 = .ok (.aload_n 0, 1) := by decide +kernel
theorem dX3_fewestLinks_27 : decode cX3_fewestLinks 27 = .ok (.iload_n 3, 1) := by decide +kernel
theorem dX3_fewestLinks_28 : decode cX3_fewestLinks 28 = .ok (.invokevirtual 102, 3) := by decide +kernel
theorem dX3_fewestLinks_31 : decode cX3_fewestLinks 31 = .ok (.ior, 1) := by decide +kernel
theorem dX3_fewestLinks_32 : decode cX3_fewestLinks 32 = .ok (.istore_n 3, 1) := by decide +kernel
theorem dX3_fewestLinks_33 : decode cX3_fewestLinks 33 = .ok (.iinc 4 1, 3) := by decide +kernel
theorem dX3_fewestLinks_36 : decode cX3_fewestLinks 36 = .ok (.goto (-29), 3) := by decide +kernel
theorem dX3_fewestLinks_39 : decode cX3_fewestLinks 39 = .ok (.iconst (-1), 1) := by decide +kernel
theorem dX3_fewestLinks_40 : decode cX3_fewestLinks 40 = .ok (.ireturn, 1) := by decide +kernel
set_option maxRecDepth 20000 in
theorem ggX3_countCrossings_X5_holds : GoodIn wsX3_countCrossings wsX5_holds := goodIn_r _ [5] (by decide +kernel) (by decide +kernel)
set_option maxRecDepth 20000 in
theorem gX3_countCrossings_X5_holds_n72 : GoodIn wsX3_countCrossings (wsX5_holds) := ggX3_countCrossings_X5_holds
set_option maxRecDepth 20000 in
theorem ggX3_countCrossings_X3_countCrossing : GoodIn wsX3_countCrossings wsX3_countCrossing := goodIn_r _ [10, 1, 2, 3, 4, 5, 11, 12, 13, 9, 14, 15, 16, 17, 18, 19, 20, 21, 22, 23, 24, 25, 26, 27, 28, 29, 30, 31, 32, 33, 34, 35, 36, 37, 38, 39, 40, 41, 42, 43, 44, 45] (by decide +kernel) (by decide +kernel)
set_option maxRecDepth 20000 in
theorem gX3_countCrossings_X3_countCrossing : GoodIn wsX3_countCrossings (wsV RX3 105 RX3 yX3_countCrossing wsX3_countCrossing) := goodIn_app (goodIn_of _ (by decide +kernel)) ggX3_countCrossings_X3_countCrossing
theorem dX3_countCrossings_0 : decode cX3_countCrossings 0 = .ok (.iconst 0, 1) := by decide +kernel
theorem dX3_countCrossings_1 : decode cX3_countCrossings 1 = .ok (.istore_n 1, 1) := by decide +kernel
theorem dX3_countCrossings_2 : decode cX3_countCrossings 2 = .ok (.iconst 0, 1) := by decide +kernel
theorem dX3_countCrossings_3 : decode cX3_countCrossings 3 = .ok (.istore_n 2, 1) := by decide +kernel
theorem dX3_countCrossings_4 : decode cX3_countCrossings 4 = .ok (.iload_n 2, 1) := by decide +kernel
theorem dX3_countCrossings_5 : decode cX3_countCrossings 5 = .ok (.aload_n 0, 1) := by decide +kernel
theorem dX3_countCrossings_6 : decode cX3_countCrossings 6 = .ok (.getfield 9, 3) := by decide +kernel
theorem dX3_countCrossings_9 : decode cX3_countCrossings 9 = .ok (.getfield 31, 3) := by decide +kernel
theorem dX3_countCrossings_12 : decode cX3_countCrossings 12 = .ok (.if_icmp .ge 52, 3) := by decide +kernel
theorem dX3_countCrossings_15 : decode cX3_countCrossings 15 = .ok (.iload_n 2, 1) := by decide +kernel
theorem dX3_countCrossings_16 : decode cX3_countCrossings 16 = .ok (.iconst 1, 1) := by decide +kernel
theorem dX3_countCrossings_17 : decode cX3_countCrossings 17 = .ok (.iadd, 1) := by decide +kernel
theorem dX3_countCrossings_18 : decode cX3_countCrossings 18 = .ok (.istore_n 3, 1) := by decide +kernel
theorem dX3_countCrossings_19 : decode cX3_countCrossings 19 = .ok (.iload_n 3, 1) := by decide +kernel
theorem dX3_countCrossings_20 : decode cX3_countCrossings 20 = .ok (.aload_n 0, 1) := by decide +kernel
theorem dX3_countCrossings_21 : decode cX3_countCrossings 21 = .ok (.getfield 9, 3) := by decide +kernel
theorem dX3_countCrossings_24 : decode cX3_countCrossings 24 = .ok (.getfield 31, 3) := by decide +kernel
theorem dX3_countCrossings_27 : decode cX3_countCrossings 27 = .ok (.if_icmp .ge 31, 3) := by decide +kernel
theorem dX3_countCrossings_30 : decode cX3_countCrossings 30 = .ok (.aload_n 0, 1) := by decide +kernel
theorem dX3_countCrossings_31 : decode cX3_countCrossings 31 = .ok (.getfield 15, 3) := by decide +kernel
theorem dX3_countCrossings_34 : decode cX3_countCrossings 34 = .ok (.iload_n 2, 1) := by decide +kernel
theorem dX3_countCrossings_35 : decode cX3_countCrossings 35 = .ok (.iaload, 1) := by decide +kernel
theorem dX3_countCrossings_36 : decode cX3_countCrossings 36 = .ok (.iload_n 3, 1) := by decide +kernel
theorem dX3_countCrossings_37 : decode cX3_countCrossings 37 = .ok (.invokestatic 72, 3) := by decide +kernel
theorem dX3_countCrossings_40 : decode cX3_countCrossings 40 = .ok (.ifCond .eq 12, 3) := by decide +kernel
theorem dX3_countCrossings_43 : decode cX3_countCrossings 43 = .ok (.iload_n 1, 1) := by decide +kernel
theorem dX3_countCrossings_44 : decode cX3_countCrossings 44 = .ok (.aload_n 0, 1) := by decide +kernel
theorem dX3_countCrossings_45 : decode cX3_countCrossings 45 = .ok (.iload_n 2, 1) := by decide +kernel
theorem dX3_countCrossings_46 : decode cX3_countCrossings 46 = .ok (.iload_n 3, 1) := by decide +kernel
theorem dX3_countCrossings_47 : decode cX3_countCrossings 47 = .ok (.invokevirtual 105, 3) := by decide +kernel
theorem dX3_countCrossings_50 : decode cX3_countCrossings 50 = .ok (.iadd, 1) := by decide +kernel
theorem dX3_countCrossings_51 : decode cX3_countCrossings 51 = .ok (.istore_n 1, 1) := by decide +kernel
theorem dX3_countCrossings_52 : decode cX3_countCrossings 52 = .ok (.iinc 3 1, 3) := by decide +kernel
theorem dX3_countCrossings_55 : decode cX3_countCrossings 55 = .ok (.goto (-36), 3) := by decide +kernel
theorem dX3_countCrossings_58 : decode cX3_countCrossings 58 = .ok (.iinc 2 1, 3) := by decide +kernel
theorem dX3_countCrossings_61 : decode cX3_countCrossings 61 = .ok (.goto (-57), 3) := by decide +kernel
theorem dX3_countCrossings_64 : decode cX3_countCrossings 64 = .ok (.iload_n 1, 1) := by decide +kernel
theorem dX3_countCrossings_65 : decode cX3_countCrossings 65 = .ok (.ireturn, 1) := by decide +kernel
set_option maxRecDepth 20000 in
theorem ggX3_countCrossing_X5_holds : GoodIn wsX3_countCrossing wsX5_holds := goodIn_r _ [5] (by decide +kernel) (by decide +kernel)
set_option maxRecDepth 20000 in
theorem gX3_countCrossing_X5_holds_n72 : GoodIn wsX3_countCrossing (wsX5_holds) := ggX3_countCrossing_X5_holds
set_option maxRecDepth 20000 in
theorem ggX3_countCrossing_X3_meet : GoodIn wsX3_countCrossing wsX3_meet := goodIn_r _ [10, 1, 11, 12, 9, 13, 14, 15, 16, 17, 18, 19, 20, 21, 22, 23, 24, 25, 26, 27, 28, 29, 30, 31, 32, 33, 34, 35, 36, 37, 38, 39, 40, 41] (by decide +kernel) (by decide +kernel)
set_option maxRecDepth 20000 in
theorem gX3_countCrossing_X3_meet : GoodIn wsX3_countCrossing (wsV RX3 108 RX3 yX3_meet wsX3_meet) := goodIn_app (goodIn_of _ (by decide +kernel)) ggX3_countCrossing_X3_meet
theorem dX3_countCrossing_0 : decode cX3_countCrossing 0 = .ok (.iconst 0, 1) := by decide +kernel
theorem dX3_countCrossing_1 : decode cX3_countCrossing 1 = .ok (.istore_n 3, 1) := by decide +kernel
theorem dX3_countCrossing_2 : decode cX3_countCrossing 2 = .ok (.iload_n 1, 1) := by decide +kernel
theorem dX3_countCrossing_3 : decode cX3_countCrossing 3 = .ok (.iconst 1, 1) := by decide +kernel
theorem dX3_countCrossing_4 : decode cX3_countCrossing 4 = .ok (.iadd, 1) := by decide +kernel
theorem dX3_countCrossing_5 : decode cX3_countCrossing 5 = .ok (.istore 4, 2) := by decide +kernel
theorem dX3_countCrossing_7 : decode cX3_countCrossing 7 = .ok (.iload 4, 2) := by decide +kernel
theorem dX3_countCrossing_9 : decode cX3_countCrossing 9 = .ok (.aload_n 0, 1) := by decide +kernel
theorem dX3_countCrossing_10 : decode cX3_countCrossing 10 = .ok (.getfield 9, 3) := by decide +kernel
theorem dX3_countCrossing_13 : decode cX3_countCrossing 13 = .ok (.getfield 31, 3) := by decide +kernel
theorem dX3_countCrossing_16 : decode cX3_countCrossing 16 = .ok (.if_icmp .ge 76, 3) := by decide +kernel
theorem dX3_countCrossing_19 : decode cX3_countCrossing 19 = .ok (.iload 4, 2) := by decide +kernel
theorem dX3_countCrossing_21 : decode cX3_countCrossing 21 = .ok (.iconst 1, 1) := by decide +kernel
