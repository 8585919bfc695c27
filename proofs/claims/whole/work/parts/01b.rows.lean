theorem dX3_countCrossing_22 : decode cX3_countCrossing 22 = .ok (.iadd, 1) := by decide +kernel
theorem dX3_countCrossing_23 : decode cX3_countCrossing 23 = .ok (.istore 5, 2) := by decide +kernel
theorem dX3_countCrossing_25 : decode cX3_countCrossing 25 = .ok (.iload 5, 2) := by decide +kernel
theorem dX3_countCrossing_27 : decode cX3_countCrossing 27 = .ok (.aload_n 0, 1) := by decide +kernel
theorem dX3_countCrossing_28 : decode cX3_countCrossing 28 = .ok (.getfield 9, 3) := by decide +kernel
theorem dX3_countCrossing_31 : decode cX3_countCrossing 31 = .ok (.getfield 31, 3) := by decide +kernel
theorem dX3_countCrossing_34 : decode cX3_countCrossing 34 = .ok (.if_icmp .ge 52, 3) := by decide +kernel
theorem dX3_countCrossing_37 : decode cX3_countCrossing 37 = .ok (.iload 4, 2) := by decide +kernel
theorem dX3_countCrossing_39 : decode cX3_countCrossing 39 = .ok (.iload_n 2, 1) := by decide +kernel
theorem dX3_countCrossing_40 : decode cX3_countCrossing 40 = .ok (.if_icmp .eq 40, 3) := by decide +kernel
theorem dX3_countCrossing_43 : decode cX3_countCrossing 43 = .ok (.iload 5, 2) := by decide +kernel
theorem dX3_countCrossing_45 : decode cX3_countCrossing 45 = .ok (.iload_n 2, 1) := by decide +kernel
theorem dX3_countCrossing_46 : decode cX3_countCrossing 46 = .ok (.if_icmp .eq 34, 3) := by decide +kernel
theorem dX3_countCrossing_49 : decode cX3_countCrossing 49 = .ok (.aload_n 0, 1) := by decide +kernel
theorem dX3_countCrossing_50 : decode cX3_countCrossing 50 = .ok (.getfield 15, 3) := by decide +kernel
theorem dX3_countCrossing_53 : decode cX3_countCrossing 53 = .ok (.iload 4, 2) := by decide +kernel
theorem dX3_countCrossing_55 : decode cX3_countCrossing 55 = .ok (.iaload, 1) := by decide +kernel
theorem dX3_countCrossing_56 : decode cX3_countCrossing 56 = .ok (.iload 5, 2) := by decide +kernel
theorem dX3_countCrossing_58 : decode cX3_countCrossing 58 = .ok (.invokestatic 72, 3) := by decide +kernel
theorem dX3_countCrossing_61 : decode cX3_countCrossing 61 = .ok (.ifCond .eq 19, 3) := by decide +kernel
theorem dX3_countCrossing_64 : decode cX3_countCrossing 64 = .ok (.aload_n 0, 1) := by decide +kernel
theorem dX3_countCrossing_65 : decode cX3_countCrossing 65 = .ok (.iload_n 1, 1) := by decide +kernel
theorem dX3_countCrossing_66 : decode cX3_countCrossing 66 = .ok (.iload_n 2, 1) := by decide +kernel
theorem dX3_countCrossing_67 : decode cX3_countCrossing 67 = .ok (.iload 4, 2) := by decide +kernel
theorem dX3_countCrossing_69 : decode cX3_countCrossing 69 = .ok (.iload 5, 2) := by decide +kernel
theorem dX3_countCrossing_71 : decode cX3_countCrossing 71 = .ok (.invokevirtual 108, 3) := by decide +kernel
theorem dX3_countCrossing_74 : decode cX3_countCrossing 74 = .ok (.ifCond .eq 6, 3) := by decide +kernel
theorem dX3_countCrossing_77 : decode cX3_countCrossing 77 = .ok (.iinc 3 1, 3) := by decide +kernel
theorem dX3_countCrossing_80 : decode cX3_countCrossing 80 = .ok (.iinc 5 1, 3) := by decide +kernel
theorem dX3_countCrossing_83 : decode cX3_countCrossing 83 = .ok (.goto (-58), 3) := by decide +kernel
theorem dX3_countCrossing_86 : decode cX3_countCrossing 86 = .ok (.iinc 4 1, 3) := by decide +kernel
theorem dX3_countCrossing_89 : decode cX3_countCrossing 89 = .ok (.goto (-82), 3) := by decide +kernel
theorem dX3_countCrossing_92 : decode cX3_countCrossing 92 = .ok (.iload_n 3, 1) := by decide +kernel
theorem dX3_countCrossing_93 : decode cX3_countCrossing 93 = .ok (.ireturn, 1) := by decide +kernel
set_option maxRecDepth 20000 in
theorem ggX3_meet_X3_spansMeet : GoodIn wsX3_meet wsX3_spansMeet := goodIn_r _ [5, 6, 7, 8, 9, 10, 11, 12] (by decide +kernel) (by decide +kernel)
set_option maxRecDepth 20000 in
theorem gX3_meet_X3_spansMeet : GoodIn wsX3_meet (va_wsS RX3 115 yX3_spansMeet wsX3_spansMeet) := goodIn_app (goodIn_of _ (by decide +kernel)) ggX3_meet_X3_spansMeet
set_option maxRecDepth 20000 in
theorem ggX3_meet_X3_areParted : GoodIn wsX3_meet wsX3_areParted := goodIn_r _ [16, 1, 17, 18, 19, 20, 21, 22, 23, 24, 25, 26, 27, 28, 29, 30, 31, 32, 33] (by decide +kernel) (by decide +kernel)
set_option maxRecDepth 20000 in
theorem gX3_meet_X3_areParted : GoodIn wsX3_meet (wsV RX3 122 RX3 yX3_areParted wsX3_areParted) := goodIn_app (goodIn_of _ (by decide +kernel)) ggX3_meet_X3_areParted
theorem dX3_meet_0 : decode cX3_meet 0 = .ok (.aload_n 0, 1) := by decide +kernel
theorem dX3_meet_1 : decode cX3_meet 1 = .ok (.getfield 9, 3) := by decide +kernel
theorem dX3_meet_4 : decode cX3_meet 4 = .ok (.getfield 112, 3) := by decide +kernel
theorem dX3_meet_7 : decode cX3_meet 7 = .ok (.iload_n 1, 1) := by decide +kernel
theorem dX3_meet_8 : decode cX3_meet 8 = .ok (.iload_n 2, 1) := by decide +kernel
theorem dX3_meet_9 : decode cX3_meet 9 = .ok (.iload_n 3, 1) := by decide +kernel
theorem dX3_meet_10 : decode cX3_meet 10 = .ok (.iload 4, 2) := by decide +kernel
theorem dX3_meet_12 : decode cX3_meet 12 = .ok (.invokestatic 115, 3) := by decide +kernel
theorem dX3_meet_15 : decode cX3_meet 15 = .ok (.ifCond .eq 49, 3) := by decide +kernel
theorem dX3_meet_18 : decode cX3_meet 18 = .ok (.aload_n 0, 1) := by decide +kernel
theorem dX3_meet_19 : decode cX3_meet 19 = .ok (.getfield 9, 3) := by decide +kernel
theorem dX3_meet_22 : decode cX3_meet 22 = .ok (.getfield 119, 3) := by decide +kernel
theorem dX3_meet_25 : decode cX3_meet 25 = .ok (.iload_n 1, 1) := by decide +kernel
theorem dX3_meet_26 : decode cX3_meet 26 = .ok (.iload_n 2, 1) := by decide +kernel
theorem dX3_meet_27 : decode cX3_meet 27 = .ok (.iload_n 3, 1) := by decide +kernel
theorem dX3_meet_28 : decode cX3_meet 28 = .ok (.iload 4, 2) := by decide +kernel
theorem dX3_meet_30 : decode cX3_meet 30 = .ok (.invokestatic 115, 3) := by decide +kernel
theorem dX3_meet_33 : decode cX3_meet 33 = .ok (.ifCond .eq 31, 3) := by decide +kernel
theorem dX3_meet_36 : decode cX3_meet 36 = .ok (.aload_n 0, 1) := by decide +kernel
theorem dX3_meet_37 : decode cX3_meet 37 = .ok (.iload_n 1, 1) := by decide +kernel
theorem dX3_meet_38 : decode cX3_meet 38 = .ok (.iload_n 2, 1) := by decide +kernel
theorem dX3_meet_39 : decode cX3_meet 39 = .ok (.iload_n 3, 1) := by decide +kernel
theorem dX3_meet_40 : decode cX3_meet 40 = .ok (.iload 4, 2) := by decide +kernel
theorem dX3_meet_42 : decode cX3_meet 42 = .ok (.invokevirtual 122, 3) := by decide +kernel
theorem dX3_meet_45 : decode cX3_meet 45 = .ok (.ifCond .eq 19, 3) := by decide +kernel
theorem dX3_meet_48 : decode cX3_meet 48 = .ok (.aload_n 0, 1) := by decide +kernel
theorem dX3_meet_49 : decode cX3_meet 49 = .ok (.iload_n 3, 1) := by decide +kernel
theorem dX3_meet_50 : decode cX3_meet 50 = .ok (.iload 4, 2) := by decide +kernel
theorem dX3_meet_52 : decode cX3_meet 52 = .ok (.iload_n 1, 1) := by decide +kernel
theorem dX3_meet_53 : decode cX3_meet 53 = .ok (.iload_n 2, 1) := by decide +kernel
theorem dX3_meet_54 : decode cX3_meet 54 = .ok (.invokevirtual 122, 3) := by decide +kernel
theorem dX3_meet_57 : decode cX3_meet 57 = .ok (.ifCond .eq 7, 3) := by decide +kernel
theorem dX3_meet_60 : decode cX3_meet 60 = .ok (.iconst 1, 1) := by decide +kernel
theorem dX3_meet_61 : decode cX3_meet 61 = .ok (.goto 4, 3) := by decide +kernel
theorem dX3_meet_64 : decode cX3_meet 64 = .ok (.iconst 0, 1) := by decide +kernel
theorem dX3_meet_65 : decode cX3_meet 65 = .ok (.ireturn, 1) := by decide +kernel
theorem dX3_spansMeet_0 : decode cX3_spansMeet 0 = .ok (.aload_n 0, 1) := by decide +kernel
theorem dX3_spansMeet_1 : decode cX3_spansMeet 1 = .ok (.iload_n 1, 1) := by decide +kernel
theorem dX3_spansMeet_2 : decode cX3_spansMeet 2 = .ok (.iaload, 1) := by decide +kernel
theorem dX3_spansMeet_3 : decode cX3_spansMeet 3 = .ok (.aload_n 0, 1) := by decide +kernel
theorem dX3_spansMeet_4 : decode cX3_spansMeet 4 = .ok (.iload_n 2, 1) := by decide +kernel
theorem dX3_spansMeet_5 : decode cX3_spansMeet 5 = .ok (.iaload, 1) := by decide +kernel
theorem dX3_spansMeet_6 : decode cX3_spansMeet 6 = .ok (.invokestatic 94, 3) := by decide +kernel
theorem dX3_spansMeet_9 : decode cX3_spansMeet 9 = .ok (.aload_n 0, 1) := by decide +kernel
theorem dX3_spansMeet_10 : decode cX3_spansMeet 10 = .ok (.iload_n 3, 1) := by decide +kernel
theorem dX3_spansMeet_11 : decode cX3_spansMeet 11 = .ok (.iaload, 1) := by decide +kernel
theorem dX3_spansMeet_12 : decode cX3_spansMeet 12 = .ok (.aload_n 0, 1) := by decide +kernel
theorem dX3_spansMeet_13 : decode cX3_spansMeet 13 = .ok (.iload 4, 2) := by decide +kernel
theorem dX3_spansMeet_15 : decode cX3_spansMeet 15 = .ok (.iaload, 1) := by decide +kernel
theorem dX3_spansMeet_16 : decode cX3_spansMeet 16 = .ok (.invokestatic 125, 3) := by decide +kernel
theorem dX3_spansMeet_19 : decode cX3_spansMeet 19 = .ok (.if_icmp .lt 29, 3) := by decide +kernel
theorem dX3_spansMeet_22 : decode cX3_spansMeet 22 = .ok (.aload_n 0, 1) := by decide +kernel
theorem dX3_spansMeet_23 : decode cX3_spansMeet 23 = .ok (.iload_n 3, 1) := by decide +kernel
theorem dX3_spansMeet_24 : decode cX3_spansMeet 24 = .ok (.iaload, 1) := by decide +kernel
theorem dX3_spansMeet_25 : decode cX3_spansMeet 25 = .ok (.aload_n 0, 1) := by decide +kernel
theorem dX3_spansMeet_26 : decode cX3_spansMeet 26 = .ok (.iload 4, 2) := by decide +kernel
theorem dX3_spansMeet_28 : decode cX3_spansMeet 28 = .ok (.iaload, 1) := by decide +kernel
theorem dX3_spansMeet_29 : decode cX3_spansMeet 29 = .ok (.invokestatic 94, 3) := by decide +kernel
theorem dX3_spansMeet_32 : decode cX3_spansMeet 32 = .ok (.aload_n 0, 1) := by decide +kernel
theorem dX3_spansMeet_33 : decode cX3_spansMeet 33 = .ok (.iload_n 1, 1) := by decide +kernel
theorem dX3_spansMeet_34 : decode cX3_spansMeet 34 = .ok (.iaload, 1) := by decide +kernel
theorem dX3_spansMeet_35 : decode cX3_spansMeet 35 = .ok (.aload_n 0, 1) := by decide +kernel
theorem dX3_spansMeet_36 : decode cX3_spansMeet 36 = .ok (.iload_n 2, 1) := by decide +kernel
theorem dX3_spansMeet_37 : decode cX3_spansMeet 37 = .ok (.iaload, 1) := by decide +kernel
theorem dX3_spansMeet_38 : decode cX3_spansMeet 38 = .ok (.invokestatic 125, 3) := by decide +kernel
theorem dX3_spansMeet_41 : decode cX3_spansMeet 41 = .ok (.if_icmp .lt 7, 3) := by decide +kernel
theorem dX3_spansMeet_44 : decode cX3_spansMeet 44 = .ok (.iconst 1, 1) := by decide +kernel
theorem dX3_spansMeet_45 : decode cX3_spansMeet 45 = .ok (.goto 4, 3) := by decide +kernel
theorem dX3_spansMeet_48 : decode cX3_spansMeet 48 = .ok (.iconst 0, 1) := by decide +kernel
theorem dX3_spansMeet_49 : decode cX3_spansMeet 49 = .ok (.ireturn, 1) := by decide +kernel
set_option maxRecDepth 20000 in
theorem ggX3_areParted_X1_sideOf : GoodIn wsX3_areParted wsX1_sideOf := goodIn_r _ [5, 6, 7, 12, 13, 14, 15, 16, 17, 18] (by decide +kernel) (by decide +kernel)
set_option maxRecDepth 20000 in
theorem gX3_areParted_X1_sideOf_n81 : GoodIn wsX3_areParted (wsX1_sideOf) := ggX3_areParted_X1_sideOf
theorem dX3_areParted_0 : decode cX3_areParted 0 = .ok (.aload_n 0, 1) := by decide +kernel
theorem dX3_areParted_1 : decode cX3_areParted 1 = .ok (.getfield 9, 3) := by decide +kernel
theorem dX3_areParted_4 : decode cX3_areParted 4 = .ok (.iload_n 1, 1) := by decide +kernel
theorem dX3_areParted_5 : decode cX3_areParted 5 = .ok (.iload_n 2, 1) := by decide +kernel
theorem dX3_areParted_6 : decode cX3_areParted 6 = .ok (.iload_n 3, 1) := by decide +kernel
theorem dX3_areParted_7 : decode cX3_areParted 7 = .ok (.invokevirtual 81, 3) := by decide +kernel
theorem dX3_areParted_10 : decode cX3_areParted 10 = .ok (.istore 5, 2) := by decide +kernel
theorem dX3_areParted_12 : decode cX3_areParted 12 = .ok (.aload_n 0, 1) := by decide +kernel
theorem dX3_areParted_13 : decode cX3_areParted 13 = .ok (.getfield 9, 3) := by decide +kernel
theorem dX3_areParted_16 : decode cX3_areParted 16 = .ok (.iload_n 1, 1) := by decide +kernel
theorem dX3_areParted_17 : decode cX3_areParted 17 = .ok (.iload_n 2, 1) := by decide +kernel
theorem dX3_areParted_18 : decode cX3_areParted 18 = .ok (.iload 4, 2) := by decide +kernel
theorem dX3_areParted_20 : decode cX3_areParted 20 = .ok (.invokevirtual 81, 3) := by decide +kernel
theorem dX3_areParted_23 : decode cX3_areParted 23 = .ok (.istore 6, 2) := by decide +kernel
theorem dX3_areParted_25 : decode cX3_areParted 25 = .ok (.iload 5, 2) := by decide +kernel
theorem dX3_areParted_27 : decode cX3_areParted 27 = .ok (.ifCond .gt 8, 3) := by decide +kernel
theorem dX3_areParted_30 : decode cX3_areParted 30 = .ok (.iload 6, 2) := by decide +kernel
theorem dX3_areParted_32 : decode cX3_areParted 32 = .ok (.ifCond .ge 13, 3) := by decide +kernel
theorem dX3_areParted_35 : decode cX3_areParted 35 = .ok (.iload 5, 2) := by decide +kernel
theorem dX3_areParted_37 : decode cX3_areParted 37 = .ok (.ifCond .lt 12, 3) := by decide +kernel
theorem dX3_areParted_40 : decode cX3_areParted 40 = .ok (.iload 6, 2) := by decide +kernel
theorem dX3_areParted_42 : decode cX3_areParted 42 = .ok (.ifCond .gt 7, 3) := by decide +kernel
theorem dX3_areParted_45 : decode cX3_areParted 45 = .ok (.iconst 1, 1) := by decide +kernel
theorem dX3_areParted_46 : decode cX3_areParted 46 = .ok (.goto 4, 3) := by decide +kernel
theorem dX3_areParted_49 : decode cX3_areParted 49 = .ok (.iconst 0, 1) := by decide +kernel
theorem dX3_areParted_50 : decode cX3_areParted 50 = .ok (.ireturn, 1) := by decide +kernel
set_option maxRecDepth 20000 in
theorem ggX3_nearerThan_X1_apart : GoodIn wsX3_nearerThan wsX1_apart := goodIn_r _ [6, 7, 8, 16, 17, 18, 19, 20, 21, 22] (by decide +kernel) (by decide +kernel)
set_option maxRecDepth 20000 in
theorem gX3_nearerThan_X1_apart_n52 : GoodIn wsX3_nearerThan (wsX1_apart) := ggX3_nearerThan_X1_apart
set_option maxRecDepth 20000 in
theorem ggX3_nearerThan_X5_holds : GoodIn wsX3_nearerThan wsX5_holds := goodIn_r _ [11] (by decide +kernel) (by decide +kernel)
set_option maxRecDepth 20000 in
theorem gX3_nearerThan_X5_holds_n72 : GoodIn wsX3_nearerThan (wsX5_holds) := ggX3_nearerThan_X5_holds
theorem dX3_nearerThan_0 : decode cX3_nearerThan 0 = .ok (.iconst (-1), 1) := by decide +kernel
theorem dX3_nearerThan_1 : decode cX3_nearerThan 1 = .ok (.istore_n 3, 1) := by decide +kernel
theorem dX3_nearerThan_2 : decode cX3_nearerThan 2 = .ok (.aload_n 0, 1) := by decide +kernel
theorem dX3_nearerThan_3 : decode cX3_nearerThan 3 = .ok (.getfield 9, 3) := by decide +kernel
theorem dX3_nearerThan_6 : decode cX3_nearerThan 6 = .ok (.iload_n 1, 1) := by decide +kernel
theorem dX3_nearerThan_7 : decode cX3_nearerThan 7 = .ok (.iload_n 2, 1) := by decide +kernel
theorem dX3_nearerThan_8 : decode cX3_nearerThan 8 = .ok (.invokevirtual 52, 3) := by decide +kernel
theorem dX3_nearerThan_11 : decode cX3_nearerThan 11 = .ok (.istore 4, 2) := by decide +kernel
theorem dX3_nearerThan_13 : decode cX3_nearerThan 13 = .ok (.iconst 0, 1) := by decide +kernel
theorem dX3_nearerThan_14 : decode cX3_nearerThan 14 = .ok (.istore 5, 2) := by decide +kernel
theorem dX3_nearerThan_16 : decode cX3_nearerThan 16 = .ok (.iload 5, 2) := by decide +kernel
theorem dX3_nearerThan_18 : decode cX3_nearerThan 18 = .ok (.aload_n 0, 1) := by decide +kernel
theorem dX3_nearerThan_19 : decode cX3_nearerThan 19 = .ok (.getfield 9, 3) := by decide +kernel
theorem dX3_nearerThan_22 : decode cX3_nearerThan 22 = .ok (.getfield 31, 3) := by decide +kernel
theorem dX3_nearerThan_25 : decode cX3_nearerThan 25 = .ok (.if_icmp .ge 53, 3) := by decide +kernel
theorem dX3_nearerThan_28 : decode cX3_nearerThan 28 = .ok (.aload_n 0, 1) := by decide +kernel
theorem dX3_nearerThan_29 : decode cX3_nearerThan 29 = .ok (.getfield 15, 3) := by decide +kernel
theorem dX3_nearerThan_32 : decode cX3_nearerThan 32 = .ok (.iload_n 1, 1) := by decide +kernel
theorem dX3_nearerThan_33 : decode cX3_nearerThan 33 = .ok (.iaload, 1) := by decide +kernel
theorem dX3_nearerThan_34 : decode cX3_nearerThan 34 = .ok (.iload 5, 2) := by decide +kernel
theorem dX3_nearerThan_36 : decode cX3_nearerThan 36 = .ok (.invokestatic 72, 3) := by decide +kernel
theorem dX3_nearerThan_39 : decode cX3_nearerThan 39 = .ok (.ifCond .eq 33, 3) := by decide +kernel
theorem dX3_nearerThan_42 : decode cX3_nearerThan 42 = .ok (.aload_n 0, 1) := by decide +kernel
theorem dX3_nearerThan_43 : decode cX3_nearerThan 43 = .ok (.getfield 9, 3) := by decide +kernel
theorem dX3_nearerThan_46 : decode cX3_nearerThan 46 = .ok (.iload 5, 2) := by decide +kernel
theorem dX3_nearerThan_48 : decode cX3_nearerThan 48 = .ok (.iload_n 2, 1) := by decide +kernel
theorem dX3_nearerThan_49 : decode cX3_nearerThan 49 = .ok (.invokevirtual 52, 3) := by decide +kernel
theorem dX3_nearerThan_52 : decode cX3_nearerThan 52 = .ok (.iload 4, 2) := by decide +kernel
theorem dX3_nearerThan_54 : decode cX3_nearerThan 54 = .ok (.if_icmp .ge 18, 3) := by decide +kernel
theorem dX3_nearerThan_57 : decode cX3_nearerThan 57 = .ok (.iload 5, 2) := by decide +kernel
theorem dX3_nearerThan_59 : decode cX3_nearerThan 59 = .ok (.istore_n 3, 1) := by decide +kernel
theorem dX3_nearerThan_60 : decode cX3_nearerThan 60 = .ok (.aload_n 0, 1) := by decide +kernel
theorem dX3_nearerThan_61 : decode cX3_nearerThan 61 = .ok (.getfield 9, 3) := by decide +kernel
theorem dX3_nearerThan_64 : decode cX3_nearerThan 64 = .ok (.iload 5, 2) := by decide +kernel
theorem dX3_nearerThan_66 : decode cX3_nearerThan 66 = .ok (.iload_n 2, 1) := by decide +kernel
theorem dX3_nearerThan_67 : decode cX3_nearerThan 67 = .ok (.invokevirtual 52, 3) := by decide +kernel
theorem dX3_nearerThan_70 : decode cX3_nearerThan 70 = .ok (.istore 4, 2) := by decide +kernel
theorem dX3_nearerThan_72 : decode cX3_nearerThan 72 = .ok (.iinc 5 1, 3) := by decide +kernel
theorem dX3_nearerThan_75 : decode cX3_nearerThan 75 = .ok (.goto (-59), 3) := by decide +kernel
theorem dX3_nearerThan_78 : decode cX3_nearerThan 78 = .ok (.iload_n 3, 1) := by decide +kernel
theorem dX3_nearerThan_79 : decode cX3_nearerThan 79 = .ok (.ireturn, 1) := by decide +kernel
set_option maxRecDepth 20000 in
theorem ggX3_aimsAstray_X1_isAwake : GoodIn wsX3_aimsAstray wsX1_isAwake := goodIn_r _ [5, 6, 7, 8, 9, 3, 10, 11, 12, 13, 14, 30, 31, 32, 33, 34, 35, 36] (by decide +kernel) (by decide +kernel)
set_option maxRecDepth 20000 in
theorem gX3_aimsAstray_X1_isAwake_n48 : GoodIn wsX3_aimsAstray (wsX1_isAwake) := ggX3_aimsAstray_X1_isAwake
set_option maxRecDepth 20000 in
theorem ggX3_aimsAstray_X3_nearerThan : GoodIn wsX3_aimsAstray wsX3_nearerThan := goodIn_r _ [19, 1, 20, 21, 3, 22, 23, 24, 25, 12, 13, 14, 26, 27, 28, 29, 30, 31, 32, 33, 34, 35, 36] (by decide +kernel) (by decide +kernel)
set_option maxRecDepth 20000 in
theorem gX3_aimsAstray_X3_nearerThan : GoodIn wsX3_aimsAstray (wsV RX3 128 RX3 yX3_nearerThan wsX3_nearerThan) := goodIn_app (goodIn_of _ (by decide +kernel)) ggX3_aimsAstray_X3_nearerThan
theorem dX3_aimsAstray_0 : decode cX3_aimsAstray 0 = .ok (.aload_n 0, 1) := by decide +kernel
theorem dX3_aimsAstray_1 : decode cX3_aimsAstray 1 = .ok (.getfield 9, 3) := by decide +kernel
theorem dX3_aimsAstray_4 : decode cX3_aimsAstray 4 = .ok (.iload_n 1, 1) := by decide +kernel
theorem dX3_aimsAstray_5 : decode cX3_aimsAstray 5 = .ok (.invokevirtual 48, 3) := by decide +kernel
theorem dX3_aimsAstray_8 : decode cX3_aimsAstray 8 = .ok (.ifCond .ne 5, 3) := by decide +kernel
theorem dX3_aimsAstray_11 : decode cX3_aimsAstray 11 = .ok (.iconst 0, 1) := by decide +kernel
theorem dX3_aimsAstray_12 : decode cX3_aimsAstray 12 = .ok (.ireturn, 1) := by decide +kernel
theorem dX3_aimsAstray_13 : decode cX3_aimsAstray 13 = .ok (.iconst 0, 1) := by decide +kernel
theorem dX3_aimsAstray_14 : decode cX3_aimsAstray 14 = .ok (.istore_n 2, 1) := by decide +kernel
theorem dX3_aimsAstray_15 : decode cX3_aimsAstray 15 = .ok (.iconst 0, 1) := by decide +kernel
theorem dX3_aimsAstray_16 : decode cX3_aimsAstray 16 = .ok (.istore_n 3, 1) := by decide +kernel
theorem dX3_aimsAstray_17 : decode cX3_aimsAstray 17 = .ok (.iload_n 3, 1) := by decide +kernel
theorem dX3_aimsAstray_18 : decode cX3_aimsAstray 18 = .ok (.aload_n 0, 1) := by decide +kernel
theorem dX3_aimsAstray_19 : decode cX3_aimsAstray 19 = .ok (.getfield 9, 3) := by decide +kernel
theorem dX3_aimsAstray_22 : decode cX3_aimsAstray 22 = .ok (.getfield 31, 3) := by decide +kernel
theorem dX3_aimsAstray_25 : decode cX3_aimsAstray 25 = .ok (.if_icmp .ge 41, 3) := by decide +kernel
theorem dX3_aimsAstray_28 : decode cX3_aimsAstray 28 = .ok (.iload_n 3, 1) := by decide +kernel
theorem dX3_aimsAstray_29 : decode cX3_aimsAstray 29 = .ok (.iload_n 1, 1) := by decide +kernel
theorem dX3_aimsAstray_30 : decode cX3_aimsAstray 30 = .ok (.if_icmp .eq 30, 3) := by decide +kernel
theorem dX3_aimsAstray_33 : decode cX3_aimsAstray 33 = .ok (.aload_n 0, 1) := by decide +kernel
theorem dX3_aimsAstray_34 : decode cX3_aimsAstray 34 = .ok (.getfield 9, 3) := by decide +kernel
theorem dX3_aimsAstray_37 : decode cX3_aimsAstray 37 = .ok (.iload_n 3, 1) := by decide +kernel
theorem dX3_aimsAstray_38 : decode cX3_aimsAstray 38 = .ok (.invokevirtual 48, 3) := by decide +kernel
theorem dX3_aimsAstray_41 : decode cX3_aimsAstray 41 = .ok (.ifCond .eq 19, 3) := by decide +kernel
theorem dX3_aimsAstray_44 : decode cX3_aimsAstray 44 = .ok (.aload_n 0, 1) := by decide +kernel
theorem dX3_aimsAstray_45 : decode cX3_aimsAstray 45 = .ok (.iload_n 1, 1) := by decide +kernel
theorem dX3_aimsAstray_46 : decode cX3_aimsAstray 46 = .ok (.iload_n 3, 1) := by decide +kernel
theorem dX3_aimsAstray_47 : decode cX3_aimsAstray 47 = .ok (.invokevirtual 128, 3) := by decide +kernel
theorem dX3_aimsAstray_50 : decode cX3_aimsAstray 50 = .ok (.iconst (-1), 1) := by decide +kernel
theorem dX3_aimsAstray_51 : decode cX3_aimsAstray 51 = .ok (.if_icmp .ne 9, 3) := by decide +kernel
theorem dX3_aimsAstray_54 : decode cX3_aimsAstray 54 = .ok (.iload_n 2, 1) := by decide +kernel
theorem dX3_aimsAstray_55 : decode cX3_aimsAstray 55 = .ok (.iconst 1, 1) := by decide +kernel
theorem dX3_aimsAstray_56 : decode cX3_aimsAstray 56 = .ok (.iload_n 3, 1) := by decide +kernel
theorem dX3_aimsAstray_57 : decode cX3_aimsAstray 57 = .ok (.ishl, 1) := by decide +kernel
theorem dX3_aimsAstray_58 : decode cX3_aimsAstray 58 = .ok (.ior, 1) := by decide +kernel
theorem dX3_aimsAstray_59 : decode cX3_aimsAstray 59 = .ok (.istore_n 2, 1) := by decide +kernel
theorem dX3_aimsAstray_60 : decode cX3_aimsAstray 60 = .ok (.iinc 3 1, 3) := by decide +kernel
theorem dX3_aimsAstray_63 : decode cX3_aimsAstray 63 = .ok (.goto (-46), 3) := by decide +kernel
theorem dX3_aimsAstray_66 : decode cX3_aimsAstray 66 = .ok (.iload_n 2, 1) := by decide +kernel
theorem dX3_aimsAstray_67 : decode cX3_aimsAstray 67 = .ok (.ireturn, 1) := by decide +kernel
set_option maxRecDepth 20000 in
theorem ggX4_init_X1_init : GoodIn wsX4_init wsX1_init := goodIn_r _ [11, 12, 2, 3, 13, 14, 15, 16, 17, 18, 19, 20, 24, 25, 26, 27, 28, 29, 30] (by decide +kernel) (by decide +kernel)
set_option maxRecDepth 20000 in
theorem gX4_init_X1_init_n17 : GoodIn wsX4_init (wsX1_init) := ggX4_init_X1_init
theorem dX4_init_0 : decode cX4_init 0 = .ok (.aload_n 0, 1) := by decide +kernel
theorem dX4_init_1 : decode cX4_init 1 = .ok (.invokespecial 3, 3) := by decide +kernel
theorem dX4_init_4 : decode cX4_init 4 = .ok (.aload_n 0, 1) := by decide +kernel
theorem dX4_init_5 : decode cX4_init 5 = .ok (.bipush 16, 2) := by decide +kernel
theorem dX4_init_7 : decode cX4_init 7 = .ok (.anewarray 9, 3) := by decide +kernel
theorem dX4_init_10 : decode cX4_init 10 = .ok (.putfield 11, 3) := by decide +kernel
theorem dX4_init_13 : decode cX4_init 13 = .ok (.iconst 0, 1) := by decide +kernel
theorem dX4_init_14 : decode cX4_init 14 = .ok (.istore_n 1, 1) := by decide +kernel
theorem dX4_init_15 : decode cX4_init 15 = .ok (.iload_n 1, 1) := by decide +kernel
theorem dX4_init_16 : decode cX4_init 16 = .ok (.bipush 16, 2) := by decide +kernel
theorem dX4_init_18 : decode cX4_init 18 = .ok (.if_icmp .ge 22, 3) := by decide +kernel
theorem dX4_init_21 : decode cX4_init 21 = .ok (.aload_n 0, 1) := by decide +kernel
theorem dX4_init_22 : decode cX4_init 22 = .ok (.getfield 11, 3) := by decide +kernel
theorem dX4_init_25 : decode cX4_init 25 = .ok (.iload_n 1, 1) := by decide +kernel
theorem dX4_init_26 : decode cX4_init 26 = .ok (.new 9, 3) := by decide +kernel
theorem dX4_init_29 : decode cX4_init 29 = .ok (.dup, 1) := by decide +kernel
theorem dX4_init_30 : decode cX4_init 30 = .ok (.invokespecial 17, 3) := by decide +kernel
theorem dX4_init_33 : decode cX4_init 33 = .ok (.aastore, 1) := by decide +kernel
theorem dX4_init_34 : decode cX4_init 34 = .ok (.iinc 1 1, 3) := by decide +kernel
theorem dX4_init_37 : decode cX4_init 37 = .ok (.goto (-22), 3) := by decide +kernel
theorem dX4_init_40 : decode cX4_init 40 = .ok (.aload_n 0, 1) := by decide +kernel
theorem dX4_init_41 : decode cX4_init 41 = .ok (.iconst 0, 1) := by decide +kernel
theorem dX4_init_42 : decode cX4_init 42 = .ok (.putfield 18, 3) := by decide +kernel
theorem dX4_init_45 : decode cX4_init 45 = .ok (.aload_n 0, 1) := by decide +kernel
theorem dX4_init_46 : decode cX4_init 46 = .ok (.iconst 0, 1) := by decide +kernel
theorem dX4_init_47 : decode cX4_init 47 = .ok (.putfield 22, 3) := by decide +kernel
theorem dX4_init_50 : decode cX4_init 50 = .ok (.return_, 1) := by decide +kernel
set_option maxRecDepth 20000 in
theorem ggX4_remember_X1_copyNet : GoodIn wsX4_remember wsX1_copyNet := goodIn_r _ [7, 8, 9, 10, 11, 12, 13, 17, 18, 19, 20, 21, 22, 23] (by decide +kernel) (by decide +kernel)
set_option maxRecDepth 20000 in
theorem gX4_remember_X1_copyNet_n25 : GoodIn wsX4_remember (wsX1_copyNet) := ggX4_remember_X1_copyNet
theorem dX4_remember_0 : decode cX4_remember 0 = .ok (.aload_n 0, 1) := by decide +kernel
theorem dX4_remember_1 : decode cX4_remember 1 = .ok (.aload_n 0, 1) := by decide +kernel
theorem dX4_remember_2 : decode cX4_remember 2 = .ok (.getfield 18, 3) := by decide +kernel
theorem dX4_remember_5 : decode cX4_remember 5 = .ok (.iconst 1, 1) := by decide +kernel
theorem dX4_remember_6 : decode cX4_remember 6 = .ok (.iadd, 1) := by decide +kernel
theorem dX4_remember_7 : decode cX4_remember 7 = .ok (.bipush 16, 2) := by decide +kernel
theorem dX4_remember_9 : decode cX4_remember 9 = .ok (.irem, 1) := by decide +kernel
theorem dX4_remember_10 : decode cX4_remember 10 = .ok (.putfield 18, 3) := by decide +kernel
theorem dX4_remember_13 : decode cX4_remember 13 = .ok (.aload_n 0, 1) := by decide +kernel
theorem dX4_remember_14 : decode cX4_remember 14 = .ok (.getfield 11, 3) := by decide +kernel
theorem dX4_remember_17 : decode cX4_remember 17 = .ok (.aload_n 0, 1) := by decide +kernel
theorem dX4_remember_18 : decode cX4_remember 18 = .ok (.getfield 18, 3) := by decide +kernel
theorem dX4_remember_21 : decode cX4_remember 21 = .ok (.aaload, 1) := by decide +kernel
theorem dX4_remember_22 : decode cX4_remember 22 = .ok (.aload_n 1, 1) := by decide +kernel
theorem dX4_remember_23 : decode cX4_remember 23 = .ok (.invokevirtual 25, 3) := by decide +kernel
theorem dX4_remember_26 : decode cX4_remember 26 = .ok (.aload_n 0, 1) := by decide +kernel
theorem dX4_remember_27 : decode cX4_remember 27 = .ok (.getfield 22, 3) := by decide +kernel
theorem dX4_remember_30 : decode cX4_remember 30 = .ok (.bipush 16, 2) := by decide +kernel
theorem dX4_remember_32 : decode cX4_remember 32 = .ok (.if_icmp .ge 13, 3) := by decide +kernel
theorem dX4_remember_35 : decode cX4_remember 35 = .ok (.aload_n 0, 1) := by decide +kernel
theorem dX4_remember_36 : decode cX4_remember 36 = .ok (.dup, 1) := by decide +kernel
theorem dX4_remember_37 : decode cX4_remember 37 = .ok (.getfield 22, 3) := by decide +kernel
theorem dX4_remember_40 : decode cX4_remember 40 = .ok (.iconst 1, 1) := by decide +kernel
theorem dX4_remember_41 : decode cX4_remember 41 = .ok (.iadd, 1) := by decide +kernel
theorem dX4_remember_42 : decode cX4_remember 42 = .ok (.putfield 22, 3) := by decide +kernel
theorem dX4_remember_45 : decode cX4_remember 45 = .ok (.return_, 1) := by decide +kernel
set_option maxRecDepth 20000 in
theorem ggX4_giveBack_J9_floorMod_7cf53 : GoodIn wsX4_giveBack wsJ9_floorMod_7cf53 := goodIn_r _ [7] (by decide +kernel) (by decide +kernel)
set_option maxRecDepth 20000 in
theorem gX4_giveBack_J9_floorMod_7cf53 : GoodIn wsX4_giveBack (va_wsS RX4 29 yJ9_floorMod_7cf53 wsJ9_floorMod_7cf53) := goodIn_app (goodIn_of _ (by decide +kernel)) ggX4_giveBack_J9_floorMod_7cf53
set_option maxRecDepth 20000 in
theorem ggX4_giveBack_X1_copyNet : GoodIn wsX4_giveBack wsX1_copyNet := goodIn_r _ [11, 12, 13, 14, 15, 16, 17, 21, 22, 23, 24, 25, 26, 27] (by decide +kernel) (by decide +kernel)
set_option maxRecDepth 20000 in
theorem gX4_giveBack_X1_copyNet_n25 : GoodIn wsX4_giveBack (wsX1_copyNet) := ggX4_giveBack_X1_copyNet
theorem dX4_giveBack_0 : decode cX4_giveBack 0 = .ok (.iload_n 1, 1) := by decide +kernel
theorem dX4_giveBack_1 : decode cX4_giveBack 1 = .ok (.iconst 1, 1) := by decide +kernel
theorem dX4_giveBack_2 : decode cX4_giveBack 2 = .ok (.if_icmp .lt 11, 3) := by decide +kernel
theorem dX4_giveBack_5 : decode cX4_giveBack 5 = .ok (.iload_n 1, 1) := by decide +kernel
theorem dX4_giveBack_6 : decode cX4_giveBack 6 = .ok (.aload_n 0, 1) := by decide +kernel
theorem dX4_giveBack_7 : decode cX4_giveBack 7 = .ok (.getfield 22, 3) := by decide +kernel
theorem dX4_giveBack_10 : decode cX4_giveBack 10 = .ok (.if_icmp .le 4, 3) := by decide +kernel
theorem dX4_giveBack_13 : decode cX4_giveBack 13 = .ok (.return_, 1) := by decide +kernel
theorem dX4_giveBack_14 : decode cX4_giveBack 14 = .ok (.aload_n 2, 1) := by decide +kernel
theorem dX4_giveBack_15 : decode cX4_giveBack 15 = .ok (.aload_n 0, 1) := by decide +kernel
theorem dX4_giveBack_16 : decode cX4_giveBack 16 = .ok (.getfield 11, 3) := by decide +kernel
theorem dX4_giveBack_19 : decode cX4_giveBack 19 = .ok (.aload_n 0, 1) := by decide +kernel
theorem dX4_giveBack_20 : decode cX4_giveBack 20 = .ok (.getfield 18, 3) := by decide +kernel
theorem dX4_giveBack_23 : decode cX4_giveBack 23 = .ok (.iload_n 1, 1) := by decide +kernel
theorem dX4_giveBack_24 : decode cX4_giveBack 24 = .ok (.isub, 1) := by decide +kernel
theorem dX4_giveBack_25 : decode cX4_giveBack 25 = .ok (.iconst 1, 1) := by decide +kernel
theorem dX4_giveBack_26 : decode cX4_giveBack 26 = .ok (.iadd, 1) := by decide +kernel
theorem dX4_giveBack_27 : decode cX4_giveBack 27 = .ok (.bipush 16, 2) := by decide +kernel
theorem dX4_giveBack_29 : decode cX4_giveBack 29 = .ok (.invokestatic 29, 3) := by decide +kernel
theorem dX4_giveBack_32 : decode cX4_giveBack 32 = .ok (.aaload, 1) := by decide +kernel
theorem dX4_giveBack_33 : decode cX4_giveBack 33 = .ok (.invokevirtual 25, 3) := by decide +kernel
theorem dX4_giveBack_36 : decode cX4_giveBack 36 = .ok (.aload_n 0, 1) := by decide +kernel
theorem dX4_giveBack_37 : decode cX4_giveBack 37 = .ok (.aload_n 0, 1) := by decide +kernel
theorem dX4_giveBack_38 : decode cX4_giveBack 38 = .ok (.getfield 18, 3) := by decide +kernel
theorem dX4_giveBack_41 : decode cX4_giveBack 41 = .ok (.iload_n 1, 1) := by decide +kernel
theorem dX4_giveBack_42 : decode cX4_giveBack 42 = .ok (.isub, 1) := by decide +kernel
theorem dX4_giveBack_43 : decode cX4_giveBack 43 = .ok (.bipush 16, 2) := by decide +kernel
theorem dX4_giveBack_45 : decode cX4_giveBack 45 = .ok (.invokestatic 29, 3) := by decide +kernel
theorem dX4_giveBack_48 : decode cX4_giveBack 48 = .ok (.putfield 18, 3) := by decide +kernel
theorem dX4_giveBack_51 : decode cX4_giveBack 51 = .ok (.aload_n 0, 1) := by decide +kernel
theorem dX4_giveBack_52 : decode cX4_giveBack 52 = .ok (.dup, 1) := by decide +kernel
theorem dX4_giveBack_53 : decode cX4_giveBack 53 = .ok (.getfield 22, 3) := by decide +kernel
theorem dX4_giveBack_56 : decode cX4_giveBack 56 = .ok (.iload_n 1, 1) := by decide +kernel
theorem dX4_giveBack_57 : decode cX4_giveBack 57 = .ok (.isub, 1) := by decide +kernel
theorem dX4_giveBack_58 : decode cX4_giveBack 58 = .ok (.putfield 22, 3) := by decide +kernel
theorem dX4_giveBack_61 : decode cX4_giveBack 61 = .ok (.return_, 1) := by decide +kernel
set_option maxRecDepth 20000 in
theorem ggX5_init_X1_init : GoodIn wsX5_init wsX1_init := goodIn_r _ [27, 28, 2, 3, 29, 30, 31, 32, 33, 34, 35, 36, 65, 66, 67, 68, 69, 70, 71] (by decide +kernel) (by decide +kernel)
set_option maxRecDepth 20000 in
theorem gX5_init_X1_init_n11 : GoodIn wsX5_init (wsX1_init) := ggX5_init_X1_init
set_option maxRecDepth 20000 in
theorem ggX5_init_X3_init : GoodIn wsX5_init wsX3_init := goodIn_r _ [38, 39, 2, 3, 40, 29, 41, 42, 43, 79, 80, 81, 82] (by decide +kernel) (by decide +kernel)
set_option maxRecDepth 20000 in
theorem gX5_init_X3_init_n18 : GoodIn wsX5_init (wsX3_init) := ggX5_init_X3_init
set_option maxRecDepth 20000 in
theorem ggX5_init_X2_init : GoodIn wsX5_init wsX2_init := goodIn_r _ [45, 46, 2, 3, 47, 48, 29, 49, 50, 83, 84, 85, 86, 87, 88, 89, 90, 91, 92, 93, 94, 95, 96, 97, 98, 99] (by decide +kernel) (by decide +kernel)
set_option maxRecDepth 20000 in
theorem gX5_init_X2_init_n27 : GoodIn wsX5_init (wsX2_init) := ggX5_init_X2_init
set_option maxRecDepth 20000 in
theorem ggX5_init_X0_init : GoodIn wsX5_init wsX0_init := goodIn_r _ [52, 53, 2, 3, 29, 54, 55, 56, 57, 100, 101, 102, 103] (by decide +kernel) (by decide +kernel)
set_option maxRecDepth 20000 in
theorem gX5_init_X0_init_n36 : GoodIn wsX5_init (wsX0_init) := ggX5_init_X0_init
set_option maxRecDepth 20000 in
theorem ggX5_init_X4_init : GoodIn wsX5_init wsX4_init := goodIn_r _ [59, 60, 2, 3, 61, 62, 5, 6, 63, 64, 26, 27, 28, 29, 30, 31, 32, 33, 34, 35, 36, 104, 105, 106, 65, 66, 67, 68, 69, 70, 71] (by decide +kernel) (by decide +kernel)
set_option maxRecDepth 20000 in
theorem gX5_init_X4_init_n43 : GoodIn wsX5_init (wsX4_init) := ggX5_init_X4_init
theorem dX5_init_0 : decode cX5_init 0 = .ok (.aload_n 0, 1) := by decide +kernel
theorem dX5_init_1 : decode cX5_init 1 = .ok (.invokespecial 3, 3) := by decide +kernel
theorem dX5_init_4 : decode cX5_init 4 = .ok (.aload_n 0, 1) := by decide +kernel
theorem dX5_init_5 : decode cX5_init 5 = .ok (.new 9, 3) := by decide +kernel
theorem dX5_init_8 : decode cX5_init 8 = .ok (.dup, 1) := by decide +kernel
theorem dX5_init_9 : decode cX5_init 9 = .ok (.invokespecial 11, 3) := by decide +kernel
theorem dX5_init_12 : decode cX5_init 12 = .ok (.putfield 12, 3) := by decide +kernel
theorem dX5_init_15 : decode cX5_init 15 = .ok (.aload_n 0, 1) := by decide +kernel
theorem dX5_init_16 : decode cX5_init 16 = .ok (.new 16, 3) := by decide +kernel
theorem dX5_init_19 : decode cX5_init 19 = .ok (.dup, 1) := by decide +kernel
theorem dX5_init_20 : decode cX5_init 20 = .ok (.aload_n 0, 1) := by decide +kernel
theorem dX5_init_21 : decode cX5_init 21 = .ok (.getfield 12, 3) := by decide +kernel
theorem dX5_init_24 : decode cX5_init 24 = .ok (.invokespecial 18, 3) := by decide +kernel
theorem dX5_init_27 : decode cX5_init 27 = .ok (.putfield 21, 3) := by decide +kernel
theorem dX5_init_30 : decode cX5_init 30 = .ok (.aload_n 0, 1) := by decide +kernel
theorem dX5_init_31 : decode cX5_init 31 = .ok (.new 25, 3) := by decide +kernel
theorem dX5_init_34 : decode cX5_init 34 = .ok (.dup, 1) := by decide +kernel
theorem dX5_init_35 : decode cX5_init 35 = .ok (.aload_n 0, 1) := by decide +kernel
theorem dX5_init_36 : decode cX5_init 36 = .ok (.getfield 12, 3) := by decide +kernel
theorem dX5_init_39 : decode cX5_init 39 = .ok (.aload_n 0, 1) := by decide +kernel
theorem dX5_init_40 : decode cX5_init 40 = .ok (.getfield 21, 3) := by decide +kernel
theorem dX5_init_43 : decode cX5_init 43 = .ok (.invokespecial 27, 3) := by decide +kernel
theorem dX5_init_46 : decode cX5_init 46 = .ok (.putfield 30, 3) := by decide +kernel
theorem dX5_init_49 : decode cX5_init 49 = .ok (.aload_n 0, 1) := by decide +kernel
theorem dX5_init_50 : decode cX5_init 50 = .ok (.new 34, 3) := by decide +kernel
theorem dX5_init_53 : decode cX5_init 53 = .ok (.dup, 1) := by decide +kernel
theorem dX5_init_54 : decode cX5_init 54 = .ok (.invokespecial 36, 3) := by decide +kernel
theorem dX5_init_57 : decode cX5_init 57 = .ok (.putfield 37, 3) := by decide +kernel
theorem dX5_init_60 : decode cX5_init 60 = .ok (.aload_n 0, 1) := by decide +kernel
theorem dX5_init_61 : decode cX5_init 61 = .ok (.new 41, 3) := by decide +kernel
theorem dX5_init_64 : decode cX5_init 64 = .ok (.dup, 1) := by decide +kernel
theorem dX5_init_65 : decode cX5_init 65 = .ok (.invokespecial 43, 3) := by decide +kernel
theorem dX5_init_68 : decode cX5_init 68 = .ok (.putfield 44, 3) := by decide +kernel
theorem dX5_init_71 : decode cX5_init 71 = .ok (.aload_n 0, 1) := by decide +kernel
theorem dX5_init_72 : decode cX5_init 72 = .ok (.iconst 2, 1) := by decide +kernel
theorem dX5_init_73 : decode cX5_init 73 = .ok (.anewarray 9, 3) := by decide +kernel
theorem dX5_init_76 : decode cX5_init 76 = .ok (.putfield 48, 3) := by decide +kernel
theorem dX5_init_79 : decode cX5_init 79 = .ok (.iconst 0, 1) := by decide +kernel
theorem dX5_init_80 : decode cX5_init 80 = .ok (.istore_n 1, 1) := by decide +kernel
theorem dX5_init_81 : decode cX5_init 81 = .ok (.iload_n 1, 1) := by decide +kernel
theorem dX5_init_82 : decode cX5_init 82 = .ok (.iconst 2, 1) := by decide +kernel
theorem dX5_init_83 : decode cX5_init 83 = .ok (.if_icmp .ge 22, 3) := by decide +kernel
theorem dX5_init_86 : decode cX5_init 86 = .ok (.aload_n 0, 1) := by decide +kernel
theorem dX5_init_87 : decode cX5_init 87 = .ok (.getfield 48, 3) := by decide +kernel
theorem dX5_init_90 : decode cX5_init 90 = .ok (.iload_n 1, 1) := by decide +kernel
theorem dX5_init_91 : decode cX5_init 91 = .ok (.new 9, 3) := by decide +kernel
theorem dX5_init_94 : decode cX5_init 94 = .ok (.dup, 1) := by decide +kernel
theorem dX5_init_95 : decode cX5_init 95 = .ok (.invokespecial 11, 3) := by decide +kernel
theorem dX5_init_98 : decode cX5_init 98 = .ok (.aastore, 1) := by decide +kernel
theorem dX5_init_99 : decode cX5_init 99 = .ok (.iinc 1 1, 3) := by decide +kernel
theorem dX5_init_102 : decode cX5_init 102 = .ok (.goto (-21), 3) := by decide +kernel
theorem dX5_init_105 : decode cX5_init 105 = .ok (.aload_n 0, 1) := by decide +kernel
theorem dX5_init_106 : decode cX5_init 106 = .ok (.iconst 0, 1) := by decide +kernel
theorem dX5_init_107 : decode cX5_init 107 = .ok (.putfield 52, 3) := by decide +kernel
theorem dX5_init_110 : decode cX5_init 110 = .ok (.return_, 1) := by decide +kernel
set_option maxRecDepth 20000 in
theorem ggX5_told_J6_bitCount_0f7a4 : GoodIn wsX5_told wsJ6_bitCount_0f7a4 := goodIn_r _ [10, 11, 12, 13] (by decide +kernel) (by decide +kernel)
set_option maxRecDepth 20000 in
theorem gX5_told_J6_bitCount_0f7a4 : GoodIn wsX5_told (va_wsS RX5 62 yJ6_bitCount_0f7a4 wsJ6_bitCount_0f7a4) := goodIn_app (goodIn_of _ (by decide +kernel)) ggX5_told_J6_bitCount_0f7a4
set_option maxRecDepth 20000 in
theorem ggX5_told_X3_countPairs : GoodIn wsX5_told wsX3_countPairs := goodIn_r _ [17, 18, 19, 8, 9, 10, 11, 12, 13, 195, 196, 197, 198, 188, 189, 190, 191, 192, 193, 194] (by decide +kernel) (by decide +kernel)
set_option maxRecDepth 20000 in
theorem gX5_told_X3_countPairs_n78 : GoodIn wsX5_told (wsX3_countPairs) := ggX5_told_X3_countPairs
set_option maxRecDepth 20000 in
theorem ggX5_told_X3_countFaces : GoodIn wsX5_told wsX3_countFaces := goodIn_r _ [22, 23, 18, 24, 25, 26, 27, 28, 29, 30, 31, 32, 33, 34, 15, 35, 36, 37, 38, 39, 40, 41, 42, 43, 44, 45, 46, 47, 48, 49, 50, 51, 52, 53, 54, 55, 56, 57, 58, 59, 195, 196, 197, 198, 188, 189, 190, 191, 192, 193, 194] (by decide +kernel) (by decide +kernel)
set_option maxRecDepth 20000 in
theorem gX5_told_X3_countFaces_n85 : GoodIn wsX5_told (wsX3_countFaces) := ggX5_told_X3_countFaces
set_option maxRecDepth 20000 in
theorem ggX5_told_X3_countParts : GoodIn wsX5_told wsX3_countParts := goodIn_r _ [62, 18, 63, 45, 64, 65, 66, 67, 68, 69, 70, 71, 29, 30, 31, 72, 73, 74, 15, 75, 76, 77, 78, 79, 80, 195, 196, 197, 198, 188, 189, 190, 191, 192, 193, 194] (by decide +kernel) (by decide +kernel)
set_option maxRecDepth 20000 in
theorem gX5_told_X3_countParts_n89 : GoodIn wsX5_told (wsX3_countParts) := ggX5_told_X3_countParts
set_option maxRecDepth 20000 in
theorem ggX5_told_X3_countCrossings : GoodIn wsX5_told wsX3_countCrossings := goodIn_r _ [83, 18, 80, 29, 30, 31, 84, 85, 86, 15, 87, 88, 89, 90, 91, 92, 93, 94, 95, 96, 97, 98, 99, 100, 101, 102, 103, 104, 105, 44, 45, 46, 47, 48, 49, 195, 196, 197, 198, 188, 189, 190, 191, 192, 193, 194] (by decide +kernel) (by decide +kernel)
set_option maxRecDepth 20000 in
theorem gX5_told_X3_countCrossings_n92 : GoodIn wsX5_told (wsX3_countCrossings) := ggX5_told_X3_countCrossings
set_option maxRecDepth 20000 in
theorem ggX5_told_X3_greatestFace : GoodIn wsX5_told wsX3_greatestFace := goodIn_r _ [108, 23, 18, 24, 95, 96, 97, 98, 25, 26, 27, 28, 29, 30, 31, 32, 33, 34, 15, 35, 36, 37, 38, 39, 40, 41, 42, 43, 44, 45, 46, 47, 48, 49, 50, 51, 52, 53, 54, 55, 56, 57, 58, 59, 195, 196, 197, 198, 188, 189, 190, 191, 192, 193, 194] (by decide +kernel) (by decide +kernel)
set_option maxRecDepth 20000 in
theorem gX5_told_X3_greatestFace_n95 : GoodIn wsX5_told (wsX3_greatestFace) := ggX5_told_X3_greatestFace
set_option maxRecDepth 20000 in
theorem ggX5_told_X2_countEnding : GoodIn wsX5_told wsX2_countEnding := goodIn_r _ [112, 113, 63, 45, 64, 65, 66, 67, 68, 69, 70, 71, 29, 30, 31, 114, 115, 116, 110, 117, 118, 119, 120, 121, 122, 123, 124, 125, 126, 127, 128, 129, 130, 131, 132, 133, 134, 135, 136, 137, 138, 139, 140, 141, 142, 143, 144, 44, 46, 47, 48, 49, 145, 146, 147, 148, 149, 150, 26, 27, 28, 37, 15, 38, 39, 24, 18, 40, 41, 42, 43, 50, 51, 52, 53, 54, 55, 56, 57, 58, 59, 151, 152, 153, 154, 155, 156, 157, 158, 159, 160, 161, 162, 163, 164, 165, 80, 166, 167, 168, 169, 206, 207, 208, 209, 210, 211, 212, 213, 214, 215, 216, 217, 218, 219, 220, 221, 222, 188, 189, 190, 191, 192, 193, 194, 195, 196, 197, 198] (by decide +kernel) (by decide +kernel)
set_option maxRecDepth 20000 in
theorem gX5_told_X2_countEnding_n98 : GoodIn wsX5_told (wsX2_countEnding) := ggX5_told_X2_countEnding
set_option maxRecDepth 20000 in
theorem ggX5_told_X0_firstWrong : GoodIn wsX5_told wsX0_firstWrong := goodIn_r _ [173, 174, 175, 176, 177, 63, 45, 64, 65, 66, 67, 68, 69, 70, 71, 29, 30, 31, 115, 110, 116, 117, 118, 119, 120, 121, 122, 123, 124, 125, 126, 127, 128, 129, 130, 131, 132, 133, 134, 135, 136, 137, 113, 138, 139, 140, 141, 142, 143, 144, 44, 46, 47, 48, 49, 145, 146, 147, 148, 149, 150, 26, 27, 28, 37, 15, 38, 39, 24, 18, 40, 41, 42, 43, 50, 51, 52, 53, 54, 55, 56, 57, 58, 59, 151, 152, 153, 154, 155, 156, 157, 158, 159, 160, 161, 162, 163, 164, 165, 80, 178, 179, 180, 199, 200, 201, 202, 188, 189, 190, 191, 192, 193, 194, 206, 207, 208, 209, 210, 211, 212, 213, 214, 215, 216, 217, 218, 219, 220, 221, 222, 195, 196, 197, 198] (by decide +kernel) (by decide +kernel)
set_option maxRecDepth 20000 in
theorem gX5_told_X0_firstWrong_n102 : GoodIn wsX5_told (wsX0_firstWrong) := ggX5_told_X0_firstWrong
theorem dX5_told_0 : decode cX5_told 0 = .ok (.iload_n 1, 1) := by decide +kernel
theorem dX5_told_1 : decode cX5_told 1 = .ok (.tableswitch 234 0 15 #[79, 87, 98, 106, 114, 129, 144, 152, 160, 168, 176, 185, 194, 202, 218, 226], 79) := by decide +kernel
theorem dX5_told_80 : decode cX5_told 80 = .ok (.aload_n 0, 1) := by decide +kernel
theorem dX5_told_81 : decode cX5_told 81 = .ok (.getfield 12, 3) := by decide +kernel
theorem dX5_told_84 : decode cX5_told 84 = .ok (.getfield 56, 3) := by decide +kernel
theorem dX5_told_87 : decode cX5_told 87 = .ok (.ireturn, 1) := by decide +kernel
theorem dX5_told_88 : decode cX5_told 88 = .ok (.aload_n 0, 1) := by decide +kernel
theorem dX5_told_89 : decode cX5_told 89 = .ok (.getfield 12, 3) := by decide +kernel
theorem dX5_told_92 : decode cX5_told 92 = .ok (.getfield 59, 3) := by decide +kernel
theorem dX5_told_95 : decode cX5_told 95 = .ok (.invokestatic 62, 3) := by decide +kernel
theorem dX5_told_98 : decode cX5_told 98 = .ok (.ireturn, 1) := by decide +kernel
theorem dX5_told_99 : decode cX5_told 99 = .ok (.aload_n 0, 1) := by decide +kernel
theorem dX5_told_100 : decode cX5_told 100 = .ok (.getfield 12, 3) := by decide +kernel
theorem dX5_told_103 : decode cX5_told 103 = .ok (.getfield 68, 3) := by decide +kernel
theorem dX5_told_106 : decode cX5_told 106 = .ok (.ireturn, 1) := by decide +kernel
theorem dX5_told_107 : decode cX5_told 107 = .ok (.aload_n 0, 1) := by decide +kernel
theorem dX5_told_108 : decode cX5_told 108 = .ok (.getfield 12, 3) := by decide +kernel
theorem dX5_told_111 : decode cX5_told 111 = .ok (.getfield 71, 3) := by decide +kernel
theorem dX5_told_114 : decode cX5_told 114 = .ok (.ireturn, 1) := by decide +kernel
theorem dX5_told_115 : decode cX5_told 115 = .ok (.aload_n 0, 1) := by decide +kernel
theorem dX5_told_116 : decode cX5_told 116 = .ok (.getfield 21, 3) := by decide +kernel
theorem dX5_told_119 : decode cX5_told 119 = .ok (.aload_n 0, 1) := by decide +kernel
theorem dX5_told_120 : decode cX5_told 120 = .ok (.getfield 21, 3) := by decide +kernel
theorem dX5_told_123 : decode cX5_told 123 = .ok (.getfield 74, 3) := by decide +kernel
theorem dX5_told_126 : decode cX5_told 126 = .ok (.invokevirtual 78, 3) := by decide +kernel
theorem dX5_told_129 : decode cX5_told 129 = .ok (.ireturn, 1) := by decide +kernel
theorem dX5_told_130 : decode cX5_told 130 = .ok (.aload_n 0, 1) := by decide +kernel
theorem dX5_told_131 : decode cX5_told 131 = .ok (.getfield 21, 3) := by decide +kernel
theorem dX5_told_134 : decode cX5_told 134 = .ok (.aload_n 0, 1) := by decide +kernel
theorem dX5_told_135 : decode cX5_told 135 = .ok (.getfield 21, 3) := by decide +kernel
theorem dX5_told_138 : decode cX5_told 138 = .ok (.getfield 82, 3) := by decide +kernel
theorem dX5_told_141 : decode cX5_told 141 = .ok (.invokevirtual 78, 3) := by decide +kernel
theorem dX5_told_144 : decode cX5_told 144 = .ok (.ireturn, 1) := by decide +kernel
theorem dX5_told_145 : decode cX5_told 145 = .ok (.aload_n 0, 1) := by decide +kernel
theorem dX5_told_146 : decode cX5_told 146 = .ok (.getfield 21, 3) := by decide +kernel
theorem dX5_told_149 : decode cX5_told 149 = .ok (.invokevirtual 85, 3) := by decide +kernel
theorem dX5_told_152 : decode cX5_told 152 = .ok (.ireturn, 1) := by decide +kernel
theorem dX5_told_153 : decode cX5_told 153 = .ok (.aload_n 0, 1) := by decide +kernel
theorem dX5_told_154 : decode cX5_told 154 = .ok (.getfield 21, 3) := by decide +kernel
theorem dX5_told_157 : decode cX5_told 157 = .ok (.invokevirtual 89, 3) := by decide +kernel
theorem dX5_told_160 : decode cX5_told 160 = .ok (.ireturn, 1) := by decide +kernel
theorem dX5_told_161 : decode cX5_told 161 = .ok (.aload_n 0, 1) := by decide +kernel
theorem dX5_told_162 : decode cX5_told 162 = .ok (.getfield 21, 3) := by decide +kernel
theorem dX5_told_165 : decode cX5_told 165 = .ok (.invokevirtual 92, 3) := by decide +kernel
theorem dX5_told_168 : decode cX5_told 168 = .ok (.ireturn, 1) := by decide +kernel
theorem dX5_told_169 : decode cX5_told 169 = .ok (.aload_n 0, 1) := by decide +kernel
theorem dX5_told_170 : decode cX5_told 170 = .ok (.getfield 21, 3) := by decide +kernel
theorem dX5_told_173 : decode cX5_told 173 = .ok (.invokevirtual 95, 3) := by decide +kernel
theorem dX5_told_176 : decode cX5_told 176 = .ok (.ireturn, 1) := by decide +kernel
theorem dX5_told_177 : decode cX5_told 177 = .ok (.aload_n 0, 1) := by decide +kernel
theorem dX5_told_178 : decode cX5_told 178 = .ok (.getfield 30, 3) := by decide +kernel
theorem dX5_told_181 : decode cX5_told 181 = .ok (.iconst 0, 1) := by decide +kernel
theorem dX5_told_182 : decode cX5_told 182 = .ok (.invokevirtual 98, 3) := by decide +kernel
theorem dX5_told_185 : decode cX5_told 185 = .ok (.ireturn, 1) := by decide +kernel
theorem dX5_told_186 : decode cX5_told 186 = .ok (.aload_n 0, 1) := by decide +kernel
theorem dX5_told_187 : decode cX5_told 187 = .ok (.getfield 30, 3) := by decide +kernel
theorem dX5_told_190 : decode cX5_told 190 = .ok (.iconst 2, 1) := by decide +kernel
theorem dX5_told_191 : decode cX5_told 191 = .ok (.invokevirtual 98, 3) := by decide +kernel
theorem dX5_told_194 : decode cX5_told 194 = .ok (.ireturn, 1) := by decide +kernel
theorem dX5_told_195 : decode cX5_told 195 = .ok (.aload_n 0, 1) := by decide +kernel
theorem dX5_told_196 : decode cX5_told 196 = .ok (.getfield 37, 3) := by decide +kernel
theorem dX5_told_199 : decode cX5_told 199 = .ok (.getfield 101, 3) := by decide +kernel
theorem dX5_told_202 : decode cX5_told 202 = .ok (.ireturn, 1) := by decide +kernel
theorem dX5_told_203 : decode cX5_told 203 = .ok (.aload_n 0, 1) := by decide +kernel
theorem dX5_told_204 : decode cX5_told 204 = .ok (.getfield 37, 3) := by decide +kernel
theorem dX5_told_207 : decode cX5_told 207 = .ok (.aload_n 0, 1) := by decide +kernel
theorem dX5_told_208 : decode cX5_told 208 = .ok (.getfield 12, 3) := by decide +kernel
theorem dX5_told_211 : decode cX5_told 211 = .ok (.aload_n 0, 1) := by decide +kernel
theorem dX5_told_212 : decode cX5_told 212 = .ok (.getfield 30, 3) := by decide +kernel
theorem dX5_told_215 : decode cX5_told 215 = .ok (.invokevirtual 102, 3) := by decide +kernel
theorem dX5_told_218 : decode cX5_told 218 = .ok (.ireturn, 1) := by decide +kernel
theorem dX5_told_219 : decode cX5_told 219 = .ok (.aload_n 0, 1) := by decide +kernel
theorem dX5_told_220 : decode cX5_told 220 = .ok (.getfield 44, 3) := by decide +kernel
theorem dX5_told_223 : decode cX5_told 223 = .ok (.getfield 106, 3) := by decide +kernel
theorem dX5_told_226 : decode cX5_told 226 = .ok (.ireturn, 1) := by decide +kernel
theorem dX5_told_227 : decode cX5_told 227 = .ok (.aload_n 0, 1) := by decide +kernel
theorem dX5_told_228 : decode cX5_told 228 = .ok (.getfield 12, 3) := by decide +kernel
theorem dX5_told_231 : decode cX5_told 231 = .ok (.getfield 109, 3) := by decide +kernel
theorem dX5_told_234 : decode cX5_told 234 = .ok (.ireturn, 1) := by decide +kernel
theorem dX5_told_235 : decode cX5_told 235 = .ok (.ldc 112, 2) := by decide +kernel
theorem dX5_told_237 : decode cX5_told 237 = .ok (.ireturn, 1) := by decide +kernel
set_option maxRecDepth 20000 in
theorem ggX5_at_X1_has : GoodIn wsX5_at wsX1_has := goodIn_r _ [8, 9, 40, 41, 42, 43, 44, 45, 46] (by decide +kernel) (by decide +kernel)
set_option maxRecDepth 20000 in
theorem gX5_at_X1_has_n113 : GoodIn wsX5_at (wsX1_has) := ggX5_at_X1_has
set_option maxRecDepth 20000 in
theorem ggX5_at_X1_isAwake : GoodIn wsX5_at wsX1_isAwake := goodIn_r _ [12, 13, 14, 5, 7, 6, 8, 9, 15, 16, 17, 40, 41, 42, 43, 44, 45, 46] (by decide +kernel) (by decide +kernel)
set_option maxRecDepth 20000 in
theorem gX5_at_X1_isAwake_n124 : GoodIn wsX5_at (wsX1_isAwake) := ggX5_at_X1_isAwake
set_option maxRecDepth 20000 in
theorem ggX5_at_X3_aimsAstray : GoodIn wsX5_at wsX3_aimsAstray := goodIn_r _ [21, 22, 10, 6, 11, 12, 13, 14, 5, 7, 8, 9, 15, 16, 17, 23, 24, 25, 19, 26, 27, 28, 29, 30, 31, 32, 47, 48, 49, 50, 40, 41, 42, 43, 44, 45, 46] (by decide +kernel) (by decide +kernel)
set_option maxRecDepth 20000 in
theorem gX5_at_X3_aimsAstray_n127 : GoodIn wsX5_at (wsX3_aimsAstray) := ggX5_at_X3_aimsAstray
theorem dX5_at_0 : decode cX5_at 0 = .ok (.aload_n 0, 1) := by decide +kernel
theorem dX5_at_1 : decode cX5_at 1 = .ok (.getfield 12, 3) := by decide +kernel
theorem dX5_at_4 : decode cX5_at 4 = .ok (.iload_n 1, 1) := by decide +kernel
theorem dX5_at_5 : decode cX5_at 5 = .ok (.invokevirtual 113, 3) := by decide +kernel
theorem dX5_at_8 : decode cX5_at 8 = .ok (.ifCond .ne 6, 3) := by decide +kernel
theorem dX5_at_11 : decode cX5_at 11 = .ok (.ldc 117, 2) := by decide +kernel
theorem dX5_at_13 : decode cX5_at 13 = .ok (.ireturn, 1) := by decide +kernel
theorem dX5_at_14 : decode cX5_at 14 = .ok (.iload_n 2, 1) := by decide +kernel
theorem dX5_at_15 : decode cX5_at 15 = .ok (.ifCond .lt 8, 3) := by decide +kernel
theorem dX5_at_18 : decode cX5_at 18 = .ok (.iload_n 2, 1) := by decide +kernel
theorem dX5_at_19 : decode cX5_at 19 = .ok (.iconst 5, 1) := by decide +kernel
theorem dX5_at_20 : decode cX5_at 20 = .ok (.if_icmp .le 6, 3) := by decide +kernel
theorem dX5_at_23 : decode cX5_at 23 = .ok (.ldc 112, 2) := by decide +kernel
theorem dX5_at_25 : decode cX5_at 25 = .ok (.ireturn, 1) := by decide +kernel
theorem dX5_at_26 : decode cX5_at 26 = .ok (.iload_n 2, 1) := by decide +kernel
theorem dX5_at_27 : decode cX5_at 27 = .ok (.tableswitch 90 0 4 #[33, 43, 53, 70, 80], 33) := by decide +kernel
theorem dX5_at_60 : decode cX5_at 60 = .ok (.aload_n 0, 1) := by decide +kernel
theorem dX5_at_61 : decode cX5_at 61 = .ok (.getfield 12, 3) := by decide +kernel
theorem dX5_at_64 : decode cX5_at 64 = .ok (.getfield 118, 3) := by decide +kernel
theorem dX5_at_67 : decode cX5_at 67 = .ok (.iload_n 1, 1) := by decide +kernel
theorem dX5_at_68 : decode cX5_at 68 = .ok (.iaload, 1) := by decide +kernel
theorem dX5_at_69 : decode cX5_at 69 = .ok (.ireturn, 1) := by decide +kernel
theorem dX5_at_70 : decode cX5_at 70 = .ok (.aload_n 0, 1) := by decide +kernel
theorem dX5_at_71 : decode cX5_at 71 = .ok (.getfield 12, 3) := by decide +kernel
theorem dX5_at_74 : decode cX5_at 74 = .ok (.getfield 121, 3) := by decide +kernel
theorem dX5_at_77 : decode cX5_at 77 = .ok (.iload_n 1, 1) := by decide +kernel
theorem dX5_at_78 : decode cX5_at 78 = .ok (.iaload, 1) := by decide +kernel
theorem dX5_at_79 : decode cX5_at 79 = .ok (.ireturn, 1) := by decide +kernel
theorem dX5_at_80 : decode cX5_at 80 = .ok (.aload_n 0, 1) := by decide +kernel
theorem dX5_at_81 : decode cX5_at 81 = .ok (.getfield 12, 3) := by decide +kernel
theorem dX5_at_84 : decode cX5_at 84 = .ok (.iload_n 1, 1) := by decide +kernel
theorem dX5_at_85 : decode cX5_at 85 = .ok (.invokevirtual 124, 3) := by decide +kernel
theorem dX5_at_88 : decode cX5_at 88 = .ok (.ifCond .eq 7, 3) := by decide +kernel
theorem dX5_at_91 : decode cX5_at 91 = .ok (.iconst 1, 1) := by decide +kernel
theorem dX5_at_92 : decode cX5_at 92 = .ok (.goto 4, 3) := by decide +kernel
theorem dX5_at_95 : decode cX5_at 95 = .ok (.iconst 0, 1) := by decide +kernel
theorem dX5_at_96 : decode cX5_at 96 = .ok (.ireturn, 1) := by decide +kernel
theorem dX5_at_97 : decode cX5_at 97 = .ok (.aload_n 0, 1) := by decide +kernel
theorem dX5_at_98 : decode cX5_at 98 = .ok (.getfield 21, 3) := by decide +kernel
theorem dX5_at_101 : decode cX5_at 101 = .ok (.getfield 74, 3) := by decide +kernel
theorem dX5_at_104 : decode cX5_at 104 = .ok (.iload_n 1, 1) := by decide +kernel
theorem dX5_at_105 : decode cX5_at 105 = .ok (.iaload, 1) := by decide +kernel
theorem dX5_at_106 : decode cX5_at 106 = .ok (.ireturn, 1) := by decide +kernel
theorem dX5_at_107 : decode cX5_at 107 = .ok (.aload_n 0, 1) := by decide +kernel
theorem dX5_at_108 : decode cX5_at 108 = .ok (.getfield 21, 3) := by decide +kernel
theorem dX5_at_111 : decode cX5_at 111 = .ok (.getfield 82, 3) := by decide +kernel
theorem dX5_at_114 : decode cX5_at 114 = .ok (.iload_n 1, 1) := by decide +kernel
theorem dX5_at_115 : decode cX5_at 115 = .ok (.iaload, 1) := by decide +kernel
theorem dX5_at_116 : decode cX5_at 116 = .ok (.ireturn, 1) := by decide +kernel
theorem dX5_at_117 : decode cX5_at 117 = .ok (.aload_n 0, 1) := by decide +kernel
theorem dX5_at_118 : decode cX5_at 118 = .ok (.getfield 21, 3) := by decide +kernel
theorem dX5_at_121 : decode cX5_at 121 = .ok (.iload_n 1, 1) := by decide +kernel
theorem dX5_at_122 : decode cX5_at 122 = .ok (.invokevirtual 127, 3) := by decide +kernel
theorem dX5_at_125 : decode cX5_at 125 = .ok (.ireturn, 1) := by decide +kernel
set_option maxRecDepth 20000 in
theorem ggX5_far_X1_has : GoodIn wsX5_far wsX1_has := goodIn_r _ [6, 7, 20, 21, 22, 23, 24, 25, 26] (by decide +kernel) (by decide +kernel)
set_option maxRecDepth 20000 in
theorem gX5_far_X1_has_n113 : GoodIn wsX5_far (wsX1_has) := ggX5_far_X1_has
set_option maxRecDepth 20000 in
theorem ggX5_far_X1_apart : GoodIn wsX5_far wsX1_apart := goodIn_r _ [10, 11, 12, 20, 21, 22, 23, 24, 25, 26] (by decide +kernel) (by decide +kernel)
set_option maxRecDepth 20000 in
theorem gX5_far_X1_apart_n130 : GoodIn wsX5_far (wsX1_apart) := ggX5_far_X1_apart
theorem dX5_far_0 : decode cX5_far 0 = .ok (.aload_n 0, 1) := by decide +kernel
theorem dX5_far_1 : decode cX5_far 1 = .ok (.getfield 12, 3) := by decide +kernel
theorem dX5_far_4 : decode cX5_far 4 = .ok (.iload_n 1, 1) := by decide +kernel
theorem dX5_far_5 : decode cX5_far 5 = .ok (.invokevirtual 113, 3) := by decide +kernel
theorem dX5_far_8 : decode cX5_far 8 = .ok (.ifCond .eq 14, 3) := by decide +kernel
theorem dX5_far_11 : decode cX5_far 11 = .ok (.aload_n 0, 1) := by decide +kernel
theorem dX5_far_12 : decode cX5_far 12 = .ok (.getfield 12, 3) := by decide +kernel
theorem dX5_far_15 : decode cX5_far 15 = .ok (.iload_n 2, 1) := by decide +kernel
theorem dX5_far_16 : decode cX5_far 16 = .ok (.invokevirtual 113, 3) := by decide +kernel
theorem dX5_far_19 : decode cX5_far 19 = .ok (.ifCond .ne 6, 3) := by decide +kernel
theorem dX5_far_22 : decode cX5_far 22 = .ok (.ldc 117, 2) := by decide +kernel
theorem dX5_far_24 : decode cX5_far 24 = .ok (.ireturn, 1) := by decide +kernel
theorem dX5_far_25 : decode cX5_far 25 = .ok (.aload_n 0, 1) := by decide +kernel
theorem dX5_far_26 : decode cX5_far 26 = .ok (.getfield 12, 3) := by decide +kernel
theorem dX5_far_29 : decode cX5_far 29 = .ok (.iload_n 1, 1) := by decide +kernel
theorem dX5_far_30 : decode cX5_far 30 = .ok (.iload_n 2, 1) := by decide +kernel
theorem dX5_far_31 : decode cX5_far 31 = .ok (.invokevirtual 130, 3) := by decide +kernel
theorem dX5_far_34 : decode cX5_far 34 = .ok (.ireturn, 1) := by decide +kernel
set_option maxRecDepth 20000 in
theorem ggX5_turning_X5_areTwo : GoodIn wsX5_turning wsX5_areTwo := goodIn_r _ [7, 8, 9, 10, 11, 12, 13, 41, 42, 43, 44, 45, 46, 47, 48, 49, 50, 51, 52, 53, 54] (by decide +kernel) (by decide +kernel)
set_option maxRecDepth 20000 in
theorem gX5_turning_X5_areTwo : GoodIn wsX5_turning (wsV RX5 134 RX5 yX5_areTwo wsX5_areTwo) := goodIn_app (goodIn_of _ (by decide +kernel)) ggX5_turning_X5_areTwo
set_option maxRecDepth 20000 in
theorem ggX5_turning_X3_turnFrom : GoodIn wsX5_turning wsX3_turnFrom := goodIn_r _ [17, 18, 19, 20, 6, 21, 22, 23, 24, 15, 25, 26, 10, 27, 28, 29, 30, 31, 32, 33, 34, 35, 36, 37, 38, 39, 40, 55, 56, 57, 58, 48, 49, 50, 51, 52, 53, 54] (by decide +kernel) (by decide +kernel)
set_option maxRecDepth 20000 in
theorem gX5_turning_X3_turnFrom_n138 : GoodIn wsX5_turning (wsX3_turnFrom) := ggX5_turning_X3_turnFrom
theorem dX5_turning_0 : decode cX5_turning 0 = .ok (.aload_n 0, 1) := by decide +kernel
theorem dX5_turning_1 : decode cX5_turning 1 = .ok (.iload_n 1, 1) := by decide +kernel
theorem dX5_turning_2 : decode cX5_turning 2 = .ok (.iload_n 2, 1) := by decide +kernel
theorem dX5_turning_3 : decode cX5_turning 3 = .ok (.invokevirtual 134, 3) := by decide +kernel
theorem dX5_turning_6 : decode cX5_turning 6 = .ok (.ifCond .ne 6, 3) := by decide +kernel
theorem dX5_turning_9 : decode cX5_turning 9 = .ok (.ldc 117, 2) := by decide +kernel
theorem dX5_turning_11 : decode cX5_turning 11 = .ok (.ireturn, 1) := by decide +kernel
theorem dX5_turning_12 : decode cX5_turning 12 = .ok (.aload_n 0, 1) := by decide +kernel
theorem dX5_turning_13 : decode cX5_turning 13 = .ok (.getfield 21, 3) := by decide +kernel
theorem dX5_turning_16 : decode cX5_turning 16 = .ok (.iload_n 1, 1) := by decide +kernel
theorem dX5_turning_17 : decode cX5_turning 17 = .ok (.iload_n 2, 1) := by decide +kernel
theorem dX5_turning_18 : decode cX5_turning 18 = .ok (.invokevirtual 138, 3) := by decide +kernel
theorem dX5_turning_21 : decode cX5_turning 21 = .ok (.ireturn, 1) := by decide +kernel
set_option maxRecDepth 20000 in
theorem ggX5_face_X5_areTwo : GoodIn wsX5_face wsX5_areTwo := goodIn_r _ [7, 8, 9, 10, 11, 12, 13, 47, 48, 49, 50, 51, 52, 53, 58, 59, 60, 61, 62, 63, 64] (by decide +kernel) (by decide +kernel)
set_option maxRecDepth 20000 in
theorem gX5_face_X5_areTwo : GoodIn wsX5_face (wsV RX5 134 RX5 yX5_areTwo wsX5_areTwo) := goodIn_app (goodIn_of _ (by decide +kernel)) ggX5_face_X5_areTwo
set_option maxRecDepth 20000 in
theorem ggX5_face_X5_holds : GoodIn wsX5_face wsX5_holds := goodIn_r _ [16] (by decide +kernel) (by decide +kernel)
set_option maxRecDepth 20000 in
theorem gX5_face_X5_holds : GoodIn wsX5_face (va_wsS RX5 141 yX5_holds wsX5_holds) := goodIn_app (goodIn_of _ (by decide +kernel)) ggX5_face_X5_holds
set_option maxRecDepth 20000 in
theorem ggX5_face_X3_faceLength : GoodIn wsX5_face wsX3_faceLength := goodIn_r _ [20, 21, 22, 23, 24, 18, 25, 26, 27, 15, 6, 16, 28, 29, 30, 31, 32, 10, 33, 34, 35, 36, 37, 38, 39, 40, 41, 42, 43, 44, 45, 46, 54, 55, 56, 57, 58, 59, 60, 61, 62, 63, 64] (by decide +kernel) (by decide +kernel)
set_option maxRecDepth 20000 in
theorem gX5_face_X3_faceLength_n144 : GoodIn wsX5_face (wsX3_faceLength) := ggX5_face_X3_faceLength
theorem dX5_face_0 : decode cX5_face 0 = .ok (.aload_n 0, 1) := by decide +kernel
theorem dX5_face_1 : decode cX5_face 1 = .ok (.iload_n 1, 1) := by decide +kernel
theorem dX5_face_2 : decode cX5_face 2 = .ok (.iload_n 2, 1) := by decide +kernel
theorem dX5_face_3 : decode cX5_face 3 = .ok (.invokevirtual 134, 3) := by decide +kernel
theorem dX5_face_6 : decode cX5_face 6 = .ok (.ifCond .ne 6, 3) := by decide +kernel
theorem dX5_face_9 : decode cX5_face 9 = .ok (.ldc 117, 2) := by decide +kernel
theorem dX5_face_11 : decode cX5_face 11 = .ok (.ireturn, 1) := by decide +kernel
theorem dX5_face_12 : decode cX5_face 12 = .ok (.aload_n 0, 1) := by decide +kernel
theorem dX5_face_13 : decode cX5_face 13 = .ok (.getfield 21, 3) := by decide +kernel
theorem dX5_face_16 : decode cX5_face 16 = .ok (.getfield 82, 3) := by decide +kernel
theorem dX5_face_19 : decode cX5_face 19 = .ok (.iload_n 1, 1) := by decide +kernel
theorem dX5_face_20 : decode cX5_face 20 = .ok (.iaload, 1) := by decide +kernel
theorem dX5_face_21 : decode cX5_face 21 = .ok (.iload_n 2, 1) := by decide +kernel
theorem dX5_face_22 : decode cX5_face 22 = .ok (.invokestatic 141, 3) := by decide +kernel
theorem dX5_face_25 : decode cX5_face 25 = .ok (.ifCond .ne 5, 3) := by decide +kernel
theorem dX5_face_28 : decode cX5_face 28 = .ok (.iconst (-1), 1) := by decide +kernel
theorem dX5_face_29 : decode cX5_face 29 = .ok (.ireturn, 1) := by decide +kernel
theorem dX5_face_30 : decode cX5_face 30 = .ok (.aload_n 0, 1) := by decide +kernel
theorem dX5_face_31 : decode cX5_face 31 = .ok (.getfield 21, 3) := by decide +kernel
theorem dX5_face_34 : decode cX5_face 34 = .ok (.iload_n 1, 1) := by decide +kernel
theorem dX5_face_35 : decode cX5_face 35 = .ok (.iload_n 2, 1) := by decide +kernel
theorem dX5_face_36 : decode cX5_face 36 = .ok (.invokevirtual 144, 3) := by decide +kernel
theorem dX5_face_39 : decode cX5_face 39 = .ok (.ireturn, 1) := by decide +kernel
set_option maxRecDepth 20000 in
theorem ggX5_way_X1_has : GoodIn wsX5_way wsX1_has := goodIn_r _ [9, 10, 128, 129, 130, 131, 132, 133, 134] (by decide +kernel) (by decide +kernel)
set_option maxRecDepth 20000 in
theorem gX5_way_X1_has_n113 : GoodIn wsX5_way (wsX1_has) := ggX5_way_X1_has
set_option maxRecDepth 20000 in
theorem ggX5_way_X1_isAwake : GoodIn wsX5_way wsX1_isAwake := goodIn_r _ [13, 14, 15, 6, 8, 7, 9, 10, 16, 17, 18, 128, 129, 130, 131, 132, 133, 134] (by decide +kernel) (by decide +kernel)
set_option maxRecDepth 20000 in
theorem gX5_way_X1_isAwake_n124 : GoodIn wsX5_way (wsX1_isAwake) := ggX5_way_X1_isAwake
set_option maxRecDepth 20000 in
theorem ggX5_way_X2_walk : GoodIn wsX5_way wsX2_walk := goodIn_r _ [22, 23, 24, 25, 26, 27, 28, 29, 30, 20, 31, 32, 33, 34, 35, 36, 37, 38, 39, 40, 41, 42, 43, 44, 45, 46, 47, 48, 49, 50, 51, 7, 52, 53, 54, 55, 56, 57, 58, 59, 60, 61, 62, 63, 64, 65, 66, 67, 68, 69, 70, 16, 17, 18, 71, 72, 73, 74, 75, 76, 77, 78, 79, 80, 81, 82, 83, 84, 85, 86, 87, 88, 89, 90, 91, 92, 93, 94, 95, 96, 97, 98, 99, 100, 111, 112, 113, 114, 115, 116, 117, 118, 119, 120, 121, 122, 123, 124, 125, 126, 127, 128, 129, 130, 131, 132, 133, 134, 135, 136, 137, 138] (by decide +kernel) (by decide +kernel)
set_option maxRecDepth 20000 in
theorem gX5_way_X2_walk_n148 : GoodIn wsX5_way (wsX2_walk) := ggX5_way_X2_walk
set_option maxRecDepth 20000 in
theorem ggX5_way_X2_howItEnded : GoodIn wsX5_way wsX2_howItEnded := goodIn_r _ [103, 25, 32, 111, 112, 113, 114, 115, 116, 117, 118, 119, 120, 121, 122, 123, 124, 125, 126, 127] (by decide +kernel) (by decide +kernel)
set_option maxRecDepth 20000 in
theorem gX5_way_X2_howItEnded_n152 : GoodIn wsX5_way (wsX2_howItEnded) := ggX5_way_X2_howItEnded
theorem dX5_way_0 : decode cX5_way 0 = .ok (.aload_n 0, 1) := by decide +kernel
theorem dX5_way_1 : decode cX5_way 1 = .ok (.getfield 12, 3) := by decide +kernel
theorem dX5_way_4 : decode cX5_way 4 = .ok (.iload_n 1, 1) := by decide +kernel
theorem dX5_way_5 : decode cX5_way 5 = .ok (.invokevirtual 113, 3) := by decide +kernel
theorem dX5_way_8 : decode cX5_way 8 = .ok (.ifCond .eq 14, 3) := by decide +kernel
theorem dX5_way_11 : decode cX5_way 11 = .ok (.aload_n 0, 1) := by decide +kernel
theorem dX5_way_12 : decode cX5_way 12 = .ok (.getfield 12, 3) := by decide +kernel
theorem dX5_way_15 : decode cX5_way 15 = .ok (.iload_n 2, 1) := by decide +kernel
theorem dX5_way_16 : decode cX5_way 16 = .ok (.invokevirtual 113, 3) := by decide +kernel
theorem dX5_way_19 : decode cX5_way 19 = .ok (.ifCond .ne 6, 3) := by decide +kernel
theorem dX5_way_22 : decode cX5_way 22 = .ok (.ldc 117, 2) := by decide +kernel
theorem dX5_way_24 : decode cX5_way 24 = .ok (.ireturn, 1) := by decide +kernel
theorem dX5_way_25 : decode cX5_way 25 = .ok (.iload_n 3, 1) := by decide +kernel
theorem dX5_way_26 : decode cX5_way 26 = .ok (.ifCond .lt 8, 3) := by decide +kernel
theorem dX5_way_29 : decode cX5_way 29 = .ok (.iload_n 3, 1) := by decide +kernel
theorem dX5_way_30 : decode cX5_way 30 = .ok (.iconst 5, 1) := by decide +kernel
theorem dX5_way_31 : decode cX5_way 31 = .ok (.if_icmp .le 6, 3) := by decide +kernel
theorem dX5_way_34 : decode cX5_way 34 = .ok (.ldc 112, 2) := by decide +kernel
theorem dX5_way_36 : decode cX5_way 36 = .ok (.ireturn, 1) := by decide +kernel
theorem dX5_way_37 : decode cX5_way 37 = .ok (.aload_n 0, 1) := by decide +kernel
theorem dX5_way_38 : decode cX5_way 38 = .ok (.getfield 12, 3) := by decide +kernel
theorem dX5_way_41 : decode cX5_way 41 = .ok (.iload_n 1, 1) := by decide +kernel
theorem dX5_way_42 : decode cX5_way 42 = .ok (.invokevirtual 124, 3) := by decide +kernel
theorem dX5_way_45 : decode cX5_way 45 = .ok (.ifCond .eq 14, 3) := by decide +kernel
theorem dX5_way_48 : decode cX5_way 48 = .ok (.aload_n 0, 1) := by decide +kernel
theorem dX5_way_49 : decode cX5_way 49 = .ok (.getfield 12, 3) := by decide +kernel
theorem dX5_way_52 : decode cX5_way 52 = .ok (.iload_n 2, 1) := by decide +kernel
theorem dX5_way_53 : decode cX5_way 53 = .ok (.invokevirtual 124, 3) := by decide +kernel
theorem dX5_way_56 : decode cX5_way 56 = .ok (.ifCond .ne 6, 3) := by decide +kernel
theorem dX5_way_59 : decode cX5_way 59 = .ok (.ldc 147, 2) := by decide +kernel
theorem dX5_way_61 : decode cX5_way 61 = .ok (.ireturn, 1) := by decide +kernel
theorem dX5_way_62 : decode cX5_way 62 = .ok (.aload_n 0, 1) := by decide +kernel
theorem dX5_way_63 : decode cX5_way 63 = .ok (.getfield 30, 3) := by decide +kernel
theorem dX5_way_66 : decode cX5_way 66 = .ok (.iload_n 1, 1) := by decide +kernel
theorem dX5_way_67 : decode cX5_way 67 = .ok (.iload_n 2, 1) := by decide +kernel
theorem dX5_way_68 : decode cX5_way 68 = .ok (.invokevirtual 148, 3) := by decide +kernel
theorem dX5_way_71 : decode cX5_way 71 = .ok (.iload_n 3, 1) := by decide +kernel
theorem dX5_way_72 : decode cX5_way 72 = .ok (.tableswitch 76 0 4 #[36, 44, 52, 60, 68], 36) := by decide +kernel
theorem dX5_way_108 : decode cX5_way 108 = .ok (.aload_n 0, 1) := by decide +kernel
theorem dX5_way_109 : decode cX5_way 109 = .ok (.getfield 30, 3) := by decide +kernel
theorem dX5_way_112 : decode cX5_way 112 = .ok (.invokevirtual 152, 3) := by decide +kernel
theorem dX5_way_115 : decode cX5_way 115 = .ok (.ireturn, 1) := by decide +kernel
theorem dX5_way_116 : decode cX5_way 116 = .ok (.aload_n 0, 1) := by decide +kernel
theorem dX5_way_117 : decode cX5_way 117 = .ok (.getfield 30, 3) := by decide +kernel
theorem dX5_way_120 : decode cX5_way 120 = .ok (.getfield 155, 3) := by decide +kernel
theorem dX5_way_123 : decode cX5_way 123 = .ok (.ireturn, 1) := by decide +kernel
theorem dX5_way_124 : decode cX5_way 124 = .ok (.aload_n 0, 1) := by decide +kernel
theorem dX5_way_125 : decode cX5_way 125 = .ok (.getfield 30, 3) := by decide +kernel
theorem dX5_way_128 : decode cX5_way 128 = .ok (.getfield 158, 3) := by decide +kernel
theorem dX5_way_131 : decode cX5_way 131 = .ok (.ireturn, 1) := by decide +kernel
theorem dX5_way_132 : decode cX5_way 132 = .ok (.aload_n 0, 1) := by decide +kernel
theorem dX5_way_133 : decode cX5_way 133 = .ok (.getfield 30, 3) := by decide +kernel
theorem dX5_way_136 : decode cX5_way 136 = .ok (.getfield 161, 3) := by decide +kernel
theorem dX5_way_139 : decode cX5_way 139 = .ok (.ireturn, 1) := by decide +kernel
theorem dX5_way_140 : decode cX5_way 140 = .ok (.aload_n 0, 1) := by decide +kernel
theorem dX5_way_141 : decode cX5_way 141 = .ok (.getfield 30, 3) := by decide +kernel
theorem dX5_way_144 : decode cX5_way 144 = .ok (.getfield 164, 3) := by decide +kernel
theorem dX5_way_147 : decode cX5_way 147 = .ok (.ireturn, 1) := by decide +kernel
theorem dX5_way_148 : decode cX5_way 148 = .ok (.aload_n 0, 1) := by decide +kernel
theorem dX5_way_149 : decode cX5_way 149 = .ok (.getfield 30, 3) := by decide +kernel
theorem dX5_way_152 : decode cX5_way 152 = .ok (.getfield 167, 3) := by decide +kernel
theorem dX5_way_155 : decode cX5_way 155 = .ok (.ireturn, 1) := by decide +kernel
set_option maxRecDepth 20000 in
theorem ggX5_step_X1_has : GoodIn wsX5_step wsX1_has := goodIn_r _ [9, 10, 111, 112, 113, 114, 115, 116, 117] (by decide +kernel) (by decide +kernel)
set_option maxRecDepth 20000 in
theorem gX5_step_X1_has_n113 : GoodIn wsX5_step (wsX1_has) := ggX5_step_X1_has
set_option maxRecDepth 20000 in
theorem ggX5_step_X1_isAwake : GoodIn wsX5_step wsX1_isAwake := goodIn_r _ [13, 14, 15, 6, 8, 7, 9, 10, 16, 17, 18, 111, 112, 113, 114, 115, 116, 117] (by decide +kernel) (by decide +kernel)
set_option maxRecDepth 20000 in
theorem gX5_step_X1_isAwake_n124 : GoodIn wsX5_step (wsX1_isAwake) := ggX5_step_X1_isAwake
set_option maxRecDepth 20000 in
theorem ggX5_step_X2_walk : GoodIn wsX5_step wsX2_walk := goodIn_r _ [22, 23, 24, 25, 26, 27, 28, 29, 30, 20, 31, 32, 33, 34, 35, 36, 37, 38, 39, 40, 41, 42, 43, 44, 45, 46, 47, 48, 49, 50, 51, 7, 52, 53, 54, 55, 56, 57, 58, 59, 60, 61, 62, 63, 64, 65, 66, 67, 68, 69, 70, 16, 17, 18, 71, 72, 73, 74, 75, 76, 77, 78, 79, 80, 81, 82, 83, 84, 85, 86, 87, 88, 89, 90, 91, 92, 93, 94, 95, 96, 97, 98, 99, 100, 118, 119, 120, 121, 122, 123, 124, 125, 126, 127, 128, 129, 130, 131, 132, 133, 134, 111, 112, 113, 114, 115, 116, 117, 135, 136, 137, 138] (by decide +kernel) (by decide +kernel)
set_option maxRecDepth 20000 in
theorem gX5_step_X2_walk_n148 : GoodIn wsX5_step (wsX2_walk) := ggX5_step_X2_walk
set_option maxRecDepth 20000 in
theorem ggX5_step_X2_nodeBehind : GoodIn wsX5_step wsX2_nodeBehind := goodIn_r _ [103, 26, 36, 118, 119, 120, 121, 122, 123, 124, 125, 126, 127, 128, 129, 130, 131, 132, 133, 134] (by decide +kernel) (by decide +kernel)
set_option maxRecDepth 20000 in
theorem gX5_step_X2_nodeBehind_n170 : GoodIn wsX5_step (wsX2_nodeBehind) := ggX5_step_X2_nodeBehind
theorem dX5_step_0 : decode cX5_step 0 = .ok (.aload_n 0, 1) := by decide +kernel
theorem dX5_step_1 : decode cX5_step 1 = .ok (.getfield 12, 3) := by decide +kernel
theorem dX5_step_4 : decode cX5_step 4 = .ok (.iload_n 1, 1) := by decide +kernel
theorem dX5_step_5 : decode cX5_step 5 = .ok (.invokevirtual 113, 3) := by decide +kernel
theorem dX5_step_8 : decode cX5_step 8 = .ok (.ifCond .eq 14, 3) := by decide +kernel
theorem dX5_step_11 : decode cX5_step 11 = .ok (.aload_n 0, 1) := by decide +kernel
theorem dX5_step_12 : decode cX5_step 12 = .ok (.getfield 12, 3) := by decide +kernel
theorem dX5_step_15 : decode cX5_step 15 = .ok (.iload_n 2, 1) := by decide +kernel
theorem dX5_step_16 : decode cX5_step 16 = .ok (.invokevirtual 113, 3) := by decide +kernel
theorem dX5_step_19 : decode cX5_step 19 = .ok (.ifCond .ne 6, 3) := by decide +kernel
theorem dX5_step_22 : decode cX5_step 22 = .ok (.ldc 117, 2) := by decide +kernel
theorem dX5_step_24 : decode cX5_step 24 = .ok (.ireturn, 1) := by decide +kernel
theorem dX5_step_25 : decode cX5_step 25 = .ok (.iload_n 3, 1) := by decide +kernel
theorem dX5_step_26 : decode cX5_step 26 = .ok (.ifCond .ge 6, 3) := by decide +kernel
theorem dX5_step_29 : decode cX5_step 29 = .ok (.ldc 112, 2) := by decide +kernel
theorem dX5_step_31 : decode cX5_step 31 = .ok (.ireturn, 1) := by decide +kernel
theorem dX5_step_32 : decode cX5_step 32 = .ok (.aload_n 0, 1) := by decide +kernel
theorem dX5_step_33 : decode cX5_step 33 = .ok (.getfield 12, 3) := by decide +kernel
theorem dX5_step_36 : decode cX5_step 36 = .ok (.iload_n 1, 1) := by decide +kernel
theorem dX5_step_37 : decode cX5_step 37 = .ok (.invokevirtual 124, 3) := by decide +kernel
theorem dX5_step_40 : decode cX5_step 40 = .ok (.ifCond .eq 14, 3) := by decide +kernel
theorem dX5_step_43 : decode cX5_step 43 = .ok (.aload_n 0, 1) := by decide +kernel
theorem dX5_step_44 : decode cX5_step 44 = .ok (.getfield 12, 3) := by decide +kernel
theorem dX5_step_47 : decode cX5_step 47 = .ok (.iload_n 2, 1) := by decide +kernel
theorem dX5_step_48 : decode cX5_step 48 = .ok (.invokevirtual 124, 3) := by decide +kernel
theorem dX5_step_51 : decode cX5_step 51 = .ok (.ifCond .ne 6, 3) := by decide +kernel
theorem dX5_step_54 : decode cX5_step 54 = .ok (.ldc 147, 2) := by decide +kernel
theorem dX5_step_56 : decode cX5_step 56 = .ok (.ireturn, 1) := by decide +kernel
theorem dX5_step_57 : decode cX5_step 57 = .ok (.aload_n 0, 1) := by decide +kernel
theorem dX5_step_58 : decode cX5_step 58 = .ok (.getfield 30, 3) := by decide +kernel
theorem dX5_step_61 : decode cX5_step 61 = .ok (.iload_n 1, 1) := by decide +kernel
theorem dX5_step_62 : decode cX5_step 62 = .ok (.iload_n 2, 1) := by decide +kernel
theorem dX5_step_63 : decode cX5_step 63 = .ok (.invokevirtual 148, 3) := by decide +kernel
theorem dX5_step_66 : decode cX5_step 66 = .ok (.aload_n 0, 1) := by decide +kernel
theorem dX5_step_67 : decode cX5_step 67 = .ok (.getfield 30, 3) := by decide +kernel
theorem dX5_step_70 : decode cX5_step 70 = .ok (.iload_n 3, 1) := by decide +kernel
theorem dX5_step_71 : decode cX5_step 71 = .ok (.invokevirtual 170, 3) := by decide +kernel
theorem dX5_step_74 : decode cX5_step 74 = .ok (.ireturn, 1) := by decide +kernel
set_option maxRecDepth 20000 in
theorem ggX5_hops_X1_has : GoodIn wsX5_hops wsX1_has := goodIn_r _ [8, 9, 35, 36, 37, 38, 39, 40, 41] (by decide +kernel) (by decide +kernel)
set_option maxRecDepth 20000 in
theorem gX5_hops_X1_has_n113 : GoodIn wsX5_hops (wsX1_has) := ggX5_hops_X1_has
set_option maxRecDepth 20000 in
theorem ggX5_hops_X1_isAwake : GoodIn wsX5_hops wsX1_isAwake := goodIn_r _ [12, 13, 14, 5, 7, 6, 8, 9, 15, 16, 17, 35, 36, 37, 38, 39, 40, 41] (by decide +kernel) (by decide +kernel)
set_option maxRecDepth 20000 in
theorem gX5_hops_X1_isAwake_n124 : GoodIn wsX5_hops (wsX1_isAwake) := ggX5_hops_X1_isAwake
set_option maxRecDepth 20000 in
theorem ggX5_hops_X3_fewestLinks : GoodIn wsX5_hops wsX3_fewestLinks := goodIn_r _ [21, 15, 16, 17, 22, 23, 24, 19, 25, 26, 27, 42, 43, 44, 45, 35, 36, 37, 38, 39, 40, 41] (by decide +kernel) (by decide +kernel)
set_option maxRecDepth 20000 in
theorem gX5_hops_X3_fewestLinks_n173 : GoodIn wsX5_hops (wsX3_fewestLinks) := ggX5_hops_X3_fewestLinks
theorem dX5_hops_0 : decode cX5_hops 0 = .ok (.aload_n 0, 1) := by decide +kernel
theorem dX5_hops_1 : decode cX5_hops 1 = .ok (.getfield 12, 3) := by decide +kernel
theorem dX5_hops_4 : decode cX5_hops 4 = .ok (.iload_n 1, 1) := by decide +kernel
theorem dX5_hops_5 : decode cX5_hops 5 = .ok (.invokevirtual 113, 3) := by decide +kernel
theorem dX5_hops_8 : decode cX5_hops 8 = .ok (.ifCond .eq 14, 3) := by decide +kernel
theorem dX5_hops_11 : decode cX5_hops 11 = .ok (.aload_n 0, 1) := by decide +kernel
theorem dX5_hops_12 : decode cX5_hops 12 = .ok (.getfield 12, 3) := by decide +kernel
theorem dX5_hops_15 : decode cX5_hops 15 = .ok (.iload_n 2, 1) := by decide +kernel
theorem dX5_hops_16 : decode cX5_hops 16 = .ok (.invokevirtual 113, 3) := by decide +kernel
theorem dX5_hops_19 : decode cX5_hops 19 = .ok (.ifCond .ne 6, 3) := by decide +kernel
theorem dX5_hops_22 : decode cX5_hops 22 = .ok (.ldc 117, 2) := by decide +kernel
theorem dX5_hops_24 : decode cX5_hops 24 = .ok (.ireturn, 1) := by decide +kernel
theorem dX5_hops_25 : decode cX5_hops 25 = .ok (.aload_n 0, 1) := by decide +kernel
theorem dX5_hops_26 : decode cX5_hops 26 = .ok (.getfield 12, 3) := by decide +kernel
theorem dX5_hops_29 : decode cX5_hops 29 = .ok (.iload_n 1, 1) := by decide +kernel
theorem dX5_hops_30 : decode cX5_hops 30 = .ok (.invokevirtual 124, 3) := by decide +kernel
theorem dX5_hops_33 : decode cX5_hops 33 = .ok (.ifCond .eq 14, 3) := by decide +kernel
theorem dX5_hops_36 : decode cX5_hops 36 = .ok (.aload_n 0, 1) := by decide +kernel
theorem dX5_hops_37 : decode cX5_hops 37 = .ok (.getfield 12, 3) := by decide +kernel
theorem dX5_hops_40 : decode cX5_hops 40 = .ok (.iload_n 2, 1) := by decide +kernel
theorem dX5_hops_41 : decode cX5_hops 41 = .ok (.invokevirtual 124, 3) := by decide +kernel
theorem dX5_hops_44 : decode cX5_hops 44 = .ok (.ifCond .ne 6, 3) := by decide +kernel
theorem dX5_hops_47 : decode cX5_hops 47 = .ok (.ldc 147, 2) := by decide +kernel
theorem dX5_hops_49 : decode cX5_hops 49 = .ok (.ireturn, 1) := by decide +kernel
theorem dX5_hops_50 : decode cX5_hops 50 = .ok (.aload_n 0, 1) := by decide +kernel
theorem dX5_hops_51 : decode cX5_hops 51 = .ok (.getfield 21, 3) := by decide +kernel
theorem dX5_hops_54 : decode cX5_hops 54 = .ok (.iload_n 1, 1) := by decide +kernel
theorem dX5_hops_55 : decode cX5_hops 55 = .ok (.iload_n 2, 1) := by decide +kernel
theorem dX5_hops_56 : decode cX5_hops 56 = .ok (.invokevirtual 173, 3) := by decide +kernel
theorem dX5_hops_59 : decode cX5_hops 59 = .ok (.ireturn, 1) := by decide +kernel
set_option maxRecDepth 20000 in
theorem ggX5_node_X5_isPlace : GoodIn wsX5_node wsX5_isPlace := goodIn_r _ [10] (by decide +kernel) (by decide +kernel)
set_option maxRecDepth 20000 in
theorem gX5_node_X5_isPlace : GoodIn wsX5_node (va_wsS RX5 176 yX5_isPlace wsX5_isPlace) := goodIn_app (goodIn_of _ (by decide +kernel)) ggX5_node_X5_isPlace
set_option maxRecDepth 20000 in
theorem ggX5_node_X1_whoStandsAt : GoodIn wsX5_node wsX1_whoStandsAt := goodIn_r _ [14, 15, 16, 17, 79, 80, 81, 82, 83, 84, 85] (by decide +kernel) (by decide +kernel)
set_option maxRecDepth 20000 in
theorem gX5_node_X1_whoStandsAt_n180 : GoodIn wsX5_node (wsX1_whoStandsAt) := ggX5_node_X1_whoStandsAt
set_option maxRecDepth 20000 in
theorem ggX5_node_X4_remember : GoodIn wsX5_node wsX4_remember := goodIn_r _ [21, 22, 23, 24, 25, 12, 26, 27, 16, 17, 15, 28, 29, 30, 86, 87, 88, 79, 80, 81, 82, 83, 84, 85] (by decide +kernel) (by decide +kernel)
set_option maxRecDepth 20000 in
theorem gX5_node_X4_remember_n183 : GoodIn wsX5_node (wsX4_remember) := ggX5_node_X4_remember
set_option maxRecDepth 20000 in
theorem ggX5_node_X1_add : GoodIn wsX5_node wsX1_add := goodIn_r _ [33, 15, 16, 17, 28, 79, 80, 81, 82, 83, 84, 85] (by decide +kernel) (by decide +kernel)
set_option maxRecDepth 20000 in
theorem gX5_node_X1_add_n186 : GoodIn wsX5_node (wsX1_add) := ggX5_node_X1_add
set_option maxRecDepth 20000 in
theorem ggX5_node_X3_follow : GoodIn wsX5_node wsX3_follow := goodIn_r _ [37, 38, 39, 40, 41, 42, 43, 44, 45, 46, 47, 35, 48, 49, 12, 50, 51, 28, 52, 53, 54, 55, 15, 56, 9, 57, 58, 59, 60, 16, 17, 61, 62, 63, 64, 65, 66, 67, 68, 69, 70, 71, 89, 90, 91, 92, 79, 80, 81, 82, 83, 84, 85] (by decide +kernel) (by decide +kernel)
set_option maxRecDepth 20000 in
theorem gX5_node_X3_follow_n189 : GoodIn wsX5_node (wsX3_follow) := ggX5_node_X3_follow
theorem dX5_node_0 : decode cX5_node 0 = .ok (.iload_n 1, 1) := by decide +kernel
theorem dX5_node_1 : decode cX5_node 1 = .ok (.iload_n 2, 1) := by decide +kernel
theorem dX5_node_2 : decode cX5_node 2 = .ok (.invokestatic 176, 3) := by decide +kernel
theorem dX5_node_5 : decode cX5_node 5 = .ok (.ifCond .ne 6, 3) := by decide +kernel
theorem dX5_node_8 : decode cX5_node 8 = .ok (.ldc 112, 2) := by decide +kernel
theorem dX5_node_10 : decode cX5_node 10 = .ok (.ireturn, 1) := by decide +kernel
theorem dX5_node_11 : decode cX5_node 11 = .ok (.aload_n 0, 1) := by decide +kernel
theorem dX5_node_12 : decode cX5_node 12 = .ok (.getfield 12, 3) := by decide +kernel
theorem dX5_node_15 : decode cX5_node 15 = .ok (.getfield 56, 3) := by decide +kernel
theorem dX5_node_18 : decode cX5_node 18 = .ok (.bipush 10, 2) := by decide +kernel
theorem dX5_node_20 : decode cX5_node 20 = .ok (.if_icmp .lt 6, 3) := by decide +kernel
theorem dX5_node_23 : decode cX5_node 23 = .ok (.ldc 179, 2) := by decide +kernel
theorem dX5_node_25 : decode cX5_node 25 = .ok (.ireturn, 1) := by decide +kernel
theorem dX5_node_26 : decode cX5_node 26 = .ok (.aload_n 0, 1) := by decide +kernel
theorem dX5_node_27 : decode cX5_node 27 = .ok (.getfield 12, 3) := by decide +kernel
theorem dX5_node_30 : decode cX5_node 30 = .ok (.iload_n 1, 1) := by decide +kernel
theorem dX5_node_31 : decode cX5_node 31 = .ok (.iload_n 2, 1) := by decide +kernel
theorem dX5_node_32 : decode cX5_node 32 = .ok (.invokevirtual 180, 3) := by decide +kernel
theorem dX5_node_35 : decode cX5_node 35 = .ok (.iconst (-1), 1) := by decide +kernel
theorem dX5_node_36 : decode cX5_node 36 = .ok (.if_icmp .eq 6, 3) := by decide +kernel
theorem dX5_node_39 : decode cX5_node 39 = .ok (.ldc 147, 2) := by decide +kernel
theorem dX5_node_41 : decode cX5_node 41 = .ok (.ireturn, 1) := by decide +kernel
theorem dX5_node_42 : decode cX5_node 42 = .ok (.aload_n 0, 1) := by decide +kernel
theorem dX5_node_43 : decode cX5_node 43 = .ok (.getfield 44, 3) := by decide +kernel
theorem dX5_node_46 : decode cX5_node 46 = .ok (.aload_n 0, 1) := by decide +kernel
theorem dX5_node_47 : decode cX5_node 47 = .ok (.getfield 12, 3) := by decide +kernel
theorem dX5_node_50 : decode cX5_node 50 = .ok (.invokevirtual 183, 3) := by decide +kernel
theorem dX5_node_53 : decode cX5_node 53 = .ok (.aload_n 0, 1) := by decide +kernel
theorem dX5_node_54 : decode cX5_node 54 = .ok (.getfield 12, 3) := by decide +kernel
theorem dX5_node_57 : decode cX5_node 57 = .ok (.iload_n 1, 1) := by decide +kernel
theorem dX5_node_58 : decode cX5_node 58 = .ok (.iload_n 2, 1) := by decide +kernel
theorem dX5_node_59 : decode cX5_node 59 = .ok (.invokevirtual 186, 3) := by decide +kernel
theorem dX5_node_62 : decode cX5_node 62 = .ok (.aload_n 0, 1) := by decide +kernel
theorem dX5_node_63 : decode cX5_node 63 = .ok (.getfield 21, 3) := by decide +kernel
theorem dX5_node_66 : decode cX5_node 66 = .ok (.invokevirtual 189, 3) := by decide +kernel
theorem dX5_node_69 : decode cX5_node 69 = .ok (.aload_n 0, 1) := by decide +kernel
theorem dX5_node_70 : decode cX5_node 70 = .ok (.getfield 12, 3) := by decide +kernel
theorem dX5_node_73 : decode cX5_node 73 = .ok (.getfield 56, 3) := by decide +kernel
theorem dX5_node_76 : decode cX5_node 76 = .ok (.iconst 1, 1) := by decide +kernel
theorem dX5_node_77 : decode cX5_node 77 = .ok (.isub, 1) := by decide +kernel
theorem dX5_node_78 : decode cX5_node 78 = .ok (.ireturn, 1) := by decide +kernel
set_option maxRecDepth 20000 in
theorem ggX5_move_X1_has : GoodIn wsX5_move wsX1_has := goodIn_r _ [10, 11, 79, 80, 81, 82, 83, 84, 85] (by decide +kernel) (by decide +kernel)
set_option maxRecDepth 20000 in
theorem gX5_move_X1_has_n113 : GoodIn wsX5_move (wsX1_has) := ggX5_move_X1_has
set_option maxRecDepth 20000 in
theorem ggX5_move_X5_isPlace : GoodIn wsX5_move wsX5_isPlace := goodIn_r _ [15] (by decide +kernel) (by decide +kernel)
set_option maxRecDepth 20000 in
theorem gX5_move_X5_isPlace : GoodIn wsX5_move (va_wsS RX5 176 yX5_isPlace wsX5_isPlace) := goodIn_app (goodIn_of _ (by decide +kernel)) ggX5_move_X5_isPlace
set_option maxRecDepth 20000 in
theorem ggX5_move_X1_whoStandsAt : GoodIn wsX5_move wsX1_whoStandsAt := goodIn_r _ [18, 11, 19, 20, 79, 80, 81, 82, 83, 84, 85] (by decide +kernel) (by decide +kernel)
set_option maxRecDepth 20000 in
theorem gX5_move_X1_whoStandsAt_n180 : GoodIn wsX5_move (wsX1_whoStandsAt) := ggX5_move_X1_whoStandsAt
set_option maxRecDepth 20000 in
theorem ggX5_move_X4_remember : GoodIn wsX5_move wsX4_remember := goodIn_r _ [24, 25, 26, 27, 28, 8, 29, 30, 19, 20, 11, 31, 32, 33, 86, 87, 88, 79, 80, 81, 82, 83, 84, 85] (by decide +kernel) (by decide +kernel)
set_option maxRecDepth 20000 in
theorem gX5_move_X4_remember_n183 : GoodIn wsX5_move (wsX4_remember) := ggX5_move_X4_remember
set_option maxRecDepth 20000 in
theorem ggX5_move_X1_put : GoodIn wsX5_move wsX1_put := goodIn_r _ [36, 19, 20, 79, 80, 81, 82, 83, 84, 85] (by decide +kernel) (by decide +kernel)
set_option maxRecDepth 20000 in
theorem gX5_move_X1_put_n192 : GoodIn wsX5_move (wsX1_put) := ggX5_move_X1_put
set_option maxRecDepth 20000 in
theorem ggX5_move_X3_follow : GoodIn wsX5_move wsX3_follow := goodIn_r _ [40, 41, 42, 43, 44, 45, 46, 47, 48, 49, 50, 38, 51, 52, 8, 53, 54, 31, 55, 7, 9, 10, 11, 56, 14, 57, 58, 59, 60, 19, 20, 61, 62, 63, 64, 65, 66, 67, 68, 69, 70, 71, 89, 90, 91, 92, 79, 80, 81, 82, 83, 84, 85] (by decide +kernel) (by decide +kernel)
set_option maxRecDepth 20000 in
theorem gX5_move_X3_follow_n189 : GoodIn wsX5_move (wsX3_follow) := ggX5_move_X3_follow
theorem dX5_move_0 : decode cX5_move 0 = .ok (.aload_n 0, 1) := by decide +kernel
theorem dX5_move_1 : decode cX5_move 1 = .ok (.getfield 12, 3) := by decide +kernel
theorem dX5_move_4 : decode cX5_move 4 = .ok (.iload_n 1, 1) := by decide +kernel
theorem dX5_move_5 : decode cX5_move 5 = .ok (.invokevirtual 113, 3) := by decide +kernel
theorem dX5_move_8 : decode cX5_move 8 = .ok (.ifCond .ne 6, 3) := by decide +kernel
theorem dX5_move_11 : decode cX5_move 11 = .ok (.ldc 117, 2) := by decide +kernel
theorem dX5_move_13 : decode cX5_move 13 = .ok (.ireturn, 1) := by decide +kernel
theorem dX5_move_14 : decode cX5_move 14 = .ok (.iload_n 2, 1) := by decide +kernel
theorem dX5_move_15 : decode cX5_move 15 = .ok (.iload_n 3, 1) := by decide +kernel
theorem dX5_move_16 : decode cX5_move 16 = .ok (.invokestatic 176, 3) := by decide +kernel
theorem dX5_move_19 : decode cX5_move 19 = .ok (.ifCond .ne 6, 3) := by decide +kernel
theorem dX5_move_22 : decode cX5_move 22 = .ok (.ldc 112, 2) := by decide +kernel
theorem dX5_move_24 : decode cX5_move 24 = .ok (.ireturn, 1) := by decide +kernel
theorem dX5_move_25 : decode cX5_move 25 = .ok (.aload_n 0, 1) := by decide +kernel
theorem dX5_move_26 : decode cX5_move 26 = .ok (.getfield 12, 3) := by decide +kernel
theorem dX5_move_29 : decode cX5_move 29 = .ok (.iload_n 2, 1) := by decide +kernel
theorem dX5_move_30 : decode cX5_move 30 = .ok (.iload_n 3, 1) := by decide +kernel
theorem dX5_move_31 : decode cX5_move 31 = .ok (.invokevirtual 180, 3) := by decide +kernel
theorem dX5_move_34 : decode cX5_move 34 = .ok (.istore 4, 2) := by decide +kernel
theorem dX5_move_36 : decode cX5_move 36 = .ok (.iload 4, 2) := by decide +kernel
theorem dX5_move_38 : decode cX5_move 38 = .ok (.iconst (-1), 1) := by decide +kernel
theorem dX5_move_39 : decode cX5_move 39 = .ok (.if_icmp .eq 12, 3) := by decide +kernel
theorem dX5_move_42 : decode cX5_move 42 = .ok (.iload 4, 2) := by decide +kernel
theorem dX5_move_44 : decode cX5_move 44 = .ok (.iload_n 1, 1) := by decide +kernel
theorem dX5_move_45 : decode cX5_move 45 = .ok (.if_icmp .eq 6, 3) := by decide +kernel
theorem dX5_move_48 : decode cX5_move 48 = .ok (.ldc 147, 2) := by decide +kernel
theorem dX5_move_50 : decode cX5_move 50 = .ok (.ireturn, 1) := by decide +kernel
theorem dX5_move_51 : decode cX5_move 51 = .ok (.aload_n 0, 1) := by decide +kernel
theorem dX5_move_52 : decode cX5_move 52 = .ok (.getfield 44, 3) := by decide +kernel
theorem dX5_move_55 : decode cX5_move 55 = .ok (.aload_n 0, 1) := by decide +kernel
theorem dX5_move_56 : decode cX5_move 56 = .ok (.getfield 12, 3) := by decide +kernel
theorem dX5_move_59 : decode cX5_move 59 = .ok (.invokevirtual 183, 3) := by decide +kernel
theorem dX5_move_62 : decode cX5_move 62 = .ok (.aload_n 0, 1) := by decide +kernel
theorem dX5_move_63 : decode cX5_move 63 = .ok (.getfield 12, 3) := by decide +kernel
theorem dX5_move_66 : decode cX5_move 66 = .ok (.iload_n 1, 1) := by decide +kernel
theorem dX5_move_67 : decode cX5_move 67 = .ok (.iload_n 2, 1) := by decide +kernel
theorem dX5_move_68 : decode cX5_move 68 = .ok (.iload_n 3, 1) := by decide +kernel
theorem dX5_move_69 : decode cX5_move 69 = .ok (.invokevirtual 192, 3) := by decide +kernel
theorem dX5_move_72 : decode cX5_move 72 = .ok (.istore 5, 2) := by decide +kernel
theorem dX5_move_74 : decode cX5_move 74 = .ok (.aload_n 0, 1) := by decide +kernel
theorem dX5_move_75 : decode cX5_move 75 = .ok (.getfield 21, 3) := by decide +kernel
theorem dX5_move_78 : decode cX5_move 78 = .ok (.invokevirtual 189, 3) := by decide +kernel
theorem dX5_move_81 : decode cX5_move 81 = .ok (.iload 5, 2) := by decide +kernel
theorem dX5_move_83 : decode cX5_move 83 = .ok (.ireturn, 1) := by decide +kernel
set_option maxRecDepth 20000 in
theorem ggX5_wake_X1_has : GoodIn wsX5_wake wsX1_has := goodIn_r _ [8, 9, 78, 79, 80, 81, 82, 83, 84] (by decide +kernel) (by decide +kernel)
set_option maxRecDepth 20000 in
theorem gX5_wake_X1_has_n113 : GoodIn wsX5_wake (wsX1_has) := ggX5_wake_X1_has
set_option maxRecDepth 20000 in
theorem ggX5_wake_X4_remember : GoodIn wsX5_wake wsX4_remember := goodIn_r _ [13, 14, 15, 16, 17, 6, 18, 19, 20, 21, 9, 22, 23, 24, 85, 86, 87, 78, 79, 80, 81, 82, 83, 84] (by decide +kernel) (by decide +kernel)
set_option maxRecDepth 20000 in
theorem gX5_wake_X4_remember_n183 : GoodIn wsX5_wake (wsX4_remember) := ggX5_wake_X4_remember
set_option maxRecDepth 20000 in
theorem ggX5_wake_X1_setAwake : GoodIn wsX5_wake wsX1_setAwake := goodIn_r _ [27, 22, 78, 79, 80, 81, 82, 83, 84] (by decide +kernel) (by decide +kernel)
set_option maxRecDepth 20000 in
theorem gX5_wake_X1_setAwake_n196 : GoodIn wsX5_wake (wsX1_setAwake) := ggX5_wake_X1_setAwake
set_option maxRecDepth 20000 in
theorem ggX5_wake_X3_follow : GoodIn wsX5_wake wsX3_follow := goodIn_r _ [31, 32, 33, 34, 35, 36, 37, 38, 39, 40, 41, 29, 42, 43, 6, 44, 45, 22, 46, 5, 7, 8, 9, 47, 48, 49, 50, 51, 52, 20, 21, 53, 54, 55, 56, 57, 58, 59, 60, 61, 62, 63, 88, 89, 90, 91, 78, 79, 80, 81, 82, 83, 84] (by decide +kernel) (by decide +kernel)
set_option maxRecDepth 20000 in
theorem gX5_wake_X3_follow_n189 : GoodIn wsX5_wake (wsX3_follow) := ggX5_wake_X3_follow
set_option maxRecDepth 20000 in
theorem ggX5_wake_J6_bitCount_0f7a4 : GoodIn wsX5_wake wsJ6_bitCount_0f7a4 := goodIn_r _ [67, 68, 69, 70] (by decide +kernel) (by decide +kernel)
set_option maxRecDepth 20000 in
theorem gX5_wake_J6_bitCount_0f7a4 : GoodIn wsX5_wake (va_wsS RX5 62 yJ6_bitCount_0f7a4 wsJ6_bitCount_0f7a4) := goodIn_app (goodIn_of _ (by decide +kernel)) ggX5_wake_J6_bitCount_0f7a4
theorem dX5_wake_0 : decode cX5_wake 0 = .ok (.aload_n 0, 1) := by decide +kernel
theorem dX5_wake_1 : decode cX5_wake 1 = .ok (.getfield 12, 3) := by decide +kernel
theorem dX5_wake_4 : decode cX5_wake 4 = .ok (.iload_n 1, 1) := by decide +kernel
theorem dX5_wake_5 : decode cX5_wake 5 = .ok (.invokevirtual 113, 3) := by decide +kernel
theorem dX5_wake_8 : decode cX5_wake 8 = .ok (.ifCond .ne 6, 3) := by decide +kernel
theorem dX5_wake_11 : decode cX5_wake 11 = .ok (.ldc 117, 2) := by decide +kernel
theorem dX5_wake_13 : decode cX5_wake 13 = .ok (.ireturn, 1) := by decide +kernel
theorem dX5_wake_14 : decode cX5_wake 14 = .ok (.aload_n 0, 1) := by decide +kernel
theorem dX5_wake_15 : decode cX5_wake 15 = .ok (.getfield 44, 3) := by decide +kernel
theorem dX5_wake_18 : decode cX5_wake 18 = .ok (.aload_n 0, 1) := by decide +kernel
theorem dX5_wake_19 : decode cX5_wake 19 = .ok (.getfield 12, 3) := by decide +kernel
theorem dX5_wake_22 : decode cX5_wake 22 = .ok (.invokevirtual 183, 3) := by decide +kernel
theorem dX5_wake_25 : decode cX5_wake 25 = .ok (.aload_n 0, 1) := by decide +kernel
theorem dX5_wake_26 : decode cX5_wake 26 = .ok (.getfield 12, 3) := by decide +kernel
theorem dX5_wake_29 : decode cX5_wake 29 = .ok (.iload_n 1, 1) := by decide +kernel
theorem dX5_wake_30 : decode cX5_wake 30 = .ok (.iload_n 2, 1) := by decide +kernel
theorem dX5_wake_31 : decode cX5_wake 31 = .ok (.invokevirtual 196, 3) := by decide +kernel
theorem dX5_wake_34 : decode cX5_wake 34 = .ok (.aload_n 0, 1) := by decide +kernel
theorem dX5_wake_35 : decode cX5_wake 35 = .ok (.getfield 21, 3) := by decide +kernel
theorem dX5_wake_38 : decode cX5_wake 38 = .ok (.invokevirtual 189, 3) := by decide +kernel
theorem dX5_wake_41 : decode cX5_wake 41 = .ok (.aload_n 0, 1) := by decide +kernel
theorem dX5_wake_42 : decode cX5_wake 42 = .ok (.getfield 12, 3) := by decide +kernel
theorem dX5_wake_45 : decode cX5_wake 45 = .ok (.getfield 59, 3) := by decide +kernel
theorem dX5_wake_48 : decode cX5_wake 48 = .ok (.invokestatic 62, 3) := by decide +kernel
theorem dX5_wake_51 : decode cX5_wake 51 = .ok (.ireturn, 1) := by decide +kernel
set_option maxRecDepth 20000 in
theorem ggX5_take_X1_has : GoodIn wsX5_take wsX1_has := goodIn_r _ [8, 9, 71, 72, 73, 74, 75, 76, 77] (by decide +kernel) (by decide +kernel)
set_option maxRecDepth 20000 in
theorem gX5_take_X1_has_n113 : GoodIn wsX5_take (wsX1_has) := ggX5_take_X1_has
set_option maxRecDepth 20000 in
theorem ggX5_take_X4_remember : GoodIn wsX5_take wsX4_remember := goodIn_r _ [13, 14, 15, 16, 17, 6, 18, 19, 20, 21, 9, 22, 23, 24, 78, 79, 80, 71, 72, 73, 74, 75, 76, 77] (by decide +kernel) (by decide +kernel)
set_option maxRecDepth 20000 in
theorem gX5_take_X4_remember_n183 : GoodIn wsX5_take (wsX4_remember) := ggX5_take_X4_remember
set_option maxRecDepth 20000 in
theorem ggX5_take_X1_remove : GoodIn wsX5_take wsX1_remove := goodIn_r _ [27, 9, 20, 21, 22, 71, 72, 73, 74, 75, 76, 77] (by decide +kernel) (by decide +kernel)
set_option maxRecDepth 20000 in
theorem gX5_take_X1_remove_n200 : GoodIn wsX5_take (wsX1_remove) := ggX5_take_X1_remove
set_option maxRecDepth 20000 in
theorem ggX5_take_X3_follow : GoodIn wsX5_take wsX3_follow := goodIn_r _ [31, 32, 33, 34, 35, 36, 37, 38, 39, 40, 41, 29, 42, 43, 6, 44, 45, 22, 46, 5, 7, 8, 9, 47, 48, 49, 50, 51, 52, 20, 21, 53, 54, 55, 56, 57, 58, 59, 60, 61, 62, 63, 81, 82, 83, 84, 71, 72, 73, 74, 75, 76, 77] (by decide +kernel) (by decide +kernel)
set_option maxRecDepth 20000 in
theorem gX5_take_X3_follow_n189 : GoodIn wsX5_take (wsX3_follow) := ggX5_take_X3_follow
theorem dX5_take_0 : decode cX5_take 0 = .ok (.aload_n 0, 1) := by decide +kernel
theorem dX5_take_1 : decode cX5_take 1 = .ok (.getfield 12, 3) := by decide +kernel
theorem dX5_take_4 : decode cX5_take 4 = .ok (.iload_n 1, 1) := by decide +kernel
theorem dX5_take_5 : decode cX5_take 5 = .ok (.invokevirtual 113, 3) := by decide +kernel
theorem dX5_take_8 : decode cX5_take 8 = .ok (.ifCond .ne 6, 3) := by decide +kernel
theorem dX5_take_11 : decode cX5_take 11 = .ok (.ldc 117, 2) := by decide +kernel
theorem dX5_take_13 : decode cX5_take 13 = .ok (.ireturn, 1) := by decide +kernel
theorem dX5_take_14 : decode cX5_take 14 = .ok (.aload_n 0, 1) := by decide +kernel
theorem dX5_take_15 : decode cX5_take 15 = .ok (.getfield 44, 3) := by decide +kernel
theorem dX5_take_18 : decode cX5_take 18 = .ok (.aload_n 0, 1) := by decide +kernel
theorem dX5_take_19 : decode cX5_take 19 = .ok (.getfield 12, 3) := by decide +kernel
theorem dX5_take_22 : decode cX5_take 22 = .ok (.invokevirtual 183, 3) := by decide +kernel
theorem dX5_take_25 : decode cX5_take 25 = .ok (.aload_n 0, 1) := by decide +kernel
theorem dX5_take_26 : decode cX5_take 26 = .ok (.getfield 12, 3) := by decide +kernel
theorem dX5_take_29 : decode cX5_take 29 = .ok (.iload_n 1, 1) := by decide +kernel
theorem dX5_take_30 : decode cX5_take 30 = .ok (.invokevirtual 200, 3) := by decide +kernel
theorem dX5_take_33 : decode cX5_take 33 = .ok (.aload_n 0, 1) := by decide +kernel
theorem dX5_take_34 : decode cX5_take 34 = .ok (.getfield 21, 3) := by decide +kernel
theorem dX5_take_37 : decode cX5_take 37 = .ok (.invokevirtual 189, 3) := by decide +kernel
theorem dX5_take_40 : decode cX5_take 40 = .ok (.aload_n 0, 1) := by decide +kernel
theorem dX5_take_41 : decode cX5_take 41 = .ok (.getfield 12, 3) := by decide +kernel
theorem dX5_take_44 : decode cX5_take 44 = .ok (.getfield 56, 3) := by decide +kernel
theorem dX5_take_47 : decode cX5_take 47 = .ok (.ireturn, 1) := by decide +kernel
set_option maxRecDepth 20000 in
theorem ggX5_reach_X4_remember : GoodIn wsX5_reach wsX4_remember := goodIn_r _ [8, 9, 10, 11, 12, 13, 14, 15, 16, 17, 18, 19, 20, 21, 75, 76, 77, 68, 69, 70, 71, 72, 73, 74] (by decide +kernel) (by decide +kernel)
set_option maxRecDepth 20000 in
theorem gX5_reach_X4_remember_n183 : GoodIn wsX5_reach (wsX4_remember) := ggX5_reach_X4_remember
set_option maxRecDepth 20000 in
theorem ggX5_reach_X3_follow : GoodIn wsX5_reach wsX3_follow := goodIn_r _ [25, 26, 27, 28, 29, 30, 31, 32, 33, 34, 35, 23, 36, 37, 13, 38, 39, 19, 40, 41, 42, 43, 18, 44, 45, 46, 47, 48, 49, 16, 17, 50, 51, 52, 53, 54, 55, 56, 57, 58, 59, 60, 78, 79, 80, 81, 68, 69, 70, 71, 72, 73, 74] (by decide +kernel) (by decide +kernel)
set_option maxRecDepth 20000 in
theorem gX5_reach_X3_follow_n189 : GoodIn wsX5_reach (wsX3_follow) := ggX5_reach_X3_follow
theorem dX5_reach_0 : decode cX5_reach 0 = .ok (.iload_n 1, 1) := by decide +kernel
theorem dX5_reach_1 : decode cX5_reach 1 = .ok (.iconst 1, 1) := by decide +kernel
theorem dX5_reach_2 : decode cX5_reach 2 = .ok (.if_icmp .lt 10, 3) := by decide +kernel
theorem dX5_reach_5 : decode cX5_reach 5 = .ok (.iload_n 1, 1) := by decide +kernel
theorem dX5_reach_6 : decode cX5_reach 6 = .ok (.sipush 8000, 3) := by decide +kernel
theorem dX5_reach_9 : decode cX5_reach 9 = .ok (.if_icmp .le 6, 3) := by decide +kernel
theorem dX5_reach_12 : decode cX5_reach 12 = .ok (.ldc 112, 2) := by decide +kernel
theorem dX5_reach_14 : decode cX5_reach 14 = .ok (.ireturn, 1) := by decide +kernel
theorem dX5_reach_15 : decode cX5_reach 15 = .ok (.aload_n 0, 1) := by decide +kernel
theorem dX5_reach_16 : decode cX5_reach 16 = .ok (.getfield 12, 3) := by decide +kernel
theorem dX5_reach_19 : decode cX5_reach 19 = .ok (.getfield 68, 3) := by decide +kernel
theorem dX5_reach_22 : decode cX5_reach 22 = .ok (.istore_n 2, 1) := by decide +kernel
theorem dX5_reach_23 : decode cX5_reach 23 = .ok (.aload_n 0, 1) := by decide +kernel
theorem dX5_reach_24 : decode cX5_reach 24 = .ok (.getfield 44, 3) := by decide +kernel
theorem dX5_reach_27 : decode cX5_reach 27 = .ok (.aload_n 0, 1) := by decide +kernel
theorem dX5_reach_28 : decode cX5_reach 28 = .ok (.getfield 12, 3) := by decide +kernel
theorem dX5_reach_31 : decode cX5_reach 31 = .ok (.invokevirtual 183, 3) := by decide +kernel
theorem dX5_reach_34 : decode cX5_reach 34 = .ok (.aload_n 0, 1) := by decide +kernel
theorem dX5_reach_35 : decode cX5_reach 35 = .ok (.getfield 12, 3) := by decide +kernel
theorem dX5_reach_38 : decode cX5_reach 38 = .ok (.iload_n 1, 1) := by decide +kernel
theorem dX5_reach_39 : decode cX5_reach 39 = .ok (.putfield 68, 3) := by decide +kernel
theorem dX5_reach_42 : decode cX5_reach 42 = .ok (.aload_n 0, 1) := by decide +kernel
theorem dX5_reach_43 : decode cX5_reach 43 = .ok (.getfield 21, 3) := by decide +kernel
theorem dX5_reach_46 : decode cX5_reach 46 = .ok (.invokevirtual 189, 3) := by decide +kernel
theorem dX5_reach_49 : decode cX5_reach 49 = .ok (.iload_n 2, 1) := by decide +kernel
theorem dX5_reach_50 : decode cX5_reach 50 = .ok (.ireturn, 1) := by decide +kernel
set_option maxRecDepth 20000 in
theorem ggX5_rule_X4_remember : GoodIn wsX5_rule wsX4_remember := goodIn_r _ [8, 9, 10, 11, 12, 13, 14, 15, 16, 17, 18, 19, 20, 21, 75, 76, 77, 68, 69, 70, 71, 72, 73, 74] (by decide +kernel) (by decide +kernel)
set_option maxRecDepth 20000 in
theorem gX5_rule_X4_remember_n183 : GoodIn wsX5_rule (wsX4_remember) := ggX5_rule_X4_remember
set_option maxRecDepth 20000 in
theorem ggX5_rule_X3_follow : GoodIn wsX5_rule wsX3_follow := goodIn_r _ [25, 26, 27, 28, 29, 30, 31, 32, 33, 34, 35, 23, 36, 37, 13, 38, 39, 19, 40, 41, 42, 43, 18, 44, 45, 46, 47, 48, 49, 16, 17, 50, 51, 52, 53, 54, 55, 56, 57, 58, 59, 60, 78, 79, 80, 81, 68, 69, 70, 71, 72, 73, 74] (by decide +kernel) (by decide +kernel)
set_option maxRecDepth 20000 in
theorem gX5_rule_X3_follow_n189 : GoodIn wsX5_rule (wsX3_follow) := ggX5_rule_X3_follow
theorem dX5_rule_0 : decode cX5_rule 0 = .ok (.iload_n 1, 1) := by decide +kernel
theorem dX5_rule_1 : decode cX5_rule 1 = .ok (.ifCond .lt 8, 3) := by decide +kernel
theorem dX5_rule_4 : decode cX5_rule 4 = .ok (.iload_n 1, 1) := by decide +kernel
theorem dX5_rule_5 : decode cX5_rule 5 = .ok (.iconst 1, 1) := by decide +kernel
theorem dX5_rule_6 : decode cX5_rule 6 = .ok (.if_icmp .le 6, 3) := by decide +kernel
theorem dX5_rule_9 : decode cX5_rule 9 = .ok (.ldc 112, 2) := by decide +kernel
theorem dX5_rule_11 : decode cX5_rule 11 = .ok (.ireturn, 1) := by decide +kernel
theorem dX5_rule_12 : decode cX5_rule 12 = .ok (.aload_n 0, 1) := by decide +kernel
theorem dX5_rule_13 : decode cX5_rule 13 = .ok (.getfield 12, 3) := by decide +kernel
theorem dX5_rule_16 : decode cX5_rule 16 = .ok (.getfield 71, 3) := by decide +kernel
theorem dX5_rule_19 : decode cX5_rule 19 = .ok (.istore_n 2, 1) := by decide +kernel
theorem dX5_rule_20 : decode cX5_rule 20 = .ok (.aload_n 0, 1) := by decide +kernel
theorem dX5_rule_21 : decode cX5_rule 21 = .ok (.getfield 44, 3) := by decide +kernel
theorem dX5_rule_24 : decode cX5_rule 24 = .ok (.aload_n 0, 1) := by decide +kernel
theorem dX5_rule_25 : decode cX5_rule 25 = .ok (.getfield 12, 3) := by decide +kernel
theorem dX5_rule_28 : decode cX5_rule 28 = .ok (.invokevirtual 183, 3) := by decide +kernel
theorem dX5_rule_31 : decode cX5_rule 31 = .ok (.aload_n 0, 1) := by decide +kernel
theorem dX5_rule_32 : decode cX5_rule 32 = .ok (.getfield 12, 3) := by decide +kernel
theorem dX5_rule_35 : decode cX5_rule 35 = .ok (.iload_n 1, 1) := by decide +kernel
theorem dX5_rule_36 : decode cX5_rule 36 = .ok (.putfield 71, 3) := by decide +kernel
theorem dX5_rule_39 : decode cX5_rule 39 = .ok (.aload_n 0, 1) := by decide +kernel
theorem dX5_rule_40 : decode cX5_rule 40 = .ok (.getfield 21, 3) := by decide +kernel
theorem dX5_rule_43 : decode cX5_rule 43 = .ok (.invokevirtual 189, 3) := by decide +kernel
theorem dX5_rule_46 : decode cX5_rule 46 = .ok (.iload_n 2, 1) := by decide +kernel
theorem dX5_rule_47 : decode cX5_rule 47 = .ok (.ireturn, 1) := by decide +kernel
set_option maxRecDepth 20000 in
theorem ggX5_drift_X1_drawPlace : GoodIn wsX5_drift wsX1_drawPlace := goodIn_r _ [8, 9, 10, 11, 12, 13, 82, 83, 84, 85, 86, 87, 88] (by decide +kernel) (by decide +kernel)
set_option maxRecDepth 20000 in
theorem gX5_drift_X1_drawPlace_n204 : GoodIn wsX5_drift (wsX1_drawPlace) := ggX5_drift_X1_drawPlace
set_option maxRecDepth 20000 in
theorem ggX5_drift_X1_whoStandsAt : GoodIn wsX5_drift wsX1_whoStandsAt := goodIn_r _ [16, 17, 18, 19, 82, 83, 84, 85, 86, 87, 88] (by decide +kernel) (by decide +kernel)
set_option maxRecDepth 20000 in
theorem gX5_drift_X1_whoStandsAt_n180 : GoodIn wsX5_drift (wsX1_whoStandsAt) := ggX5_drift_X1_whoStandsAt
set_option maxRecDepth 20000 in
theorem ggX5_drift_X4_remember : GoodIn wsX5_drift wsX4_remember := goodIn_r _ [23, 24, 25, 26, 27, 6, 28, 29, 18, 19, 17, 30, 31, 32, 89, 90, 91, 82, 83, 84, 85, 86, 87, 88] (by decide +kernel) (by decide +kernel)
set_option maxRecDepth 20000 in
theorem gX5_drift_X4_remember_n183 : GoodIn wsX5_drift (wsX4_remember) := ggX5_drift_X4_remember
set_option maxRecDepth 20000 in
theorem ggX5_drift_X1_add : GoodIn wsX5_drift wsX1_add := goodIn_r _ [35, 17, 18, 19, 30, 82, 83, 84, 85, 86, 87, 88] (by decide +kernel) (by decide +kernel)
set_option maxRecDepth 20000 in
theorem gX5_drift_X1_add_n186 : GoodIn wsX5_drift (wsX1_add) := ggX5_drift_X1_add
set_option maxRecDepth 20000 in
theorem ggX5_drift_X3_follow : GoodIn wsX5_drift wsX3_follow := goodIn_r _ [39, 40, 41, 42, 43, 44, 45, 46, 47, 48, 49, 37, 50, 51, 6, 52, 53, 30, 54, 55, 56, 57, 17, 58, 59, 60, 61, 62, 63, 18, 19, 64, 65, 66, 67, 68, 69, 70, 71, 72, 73, 74, 92, 93, 94, 95, 82, 83, 84, 85, 86, 87, 88] (by decide +kernel) (by decide +kernel)
set_option maxRecDepth 20000 in
theorem gX5_drift_X3_follow_n189 : GoodIn wsX5_drift (wsX3_follow) := ggX5_drift_X3_follow
theorem dX5_drift_0 : decode cX5_drift 0 = .ok (.iload_n 1, 1) := by decide +kernel
theorem dX5_drift_1 : decode cX5_drift 1 = .ok (.iconst 1, 1) := by decide +kernel
theorem dX5_drift_2 : decode cX5_drift 2 = .ok (.if_icmp .lt 9, 3) := by decide +kernel
theorem dX5_drift_5 : decode cX5_drift 5 = .ok (.iload_n 1, 1) := by decide +kernel
theorem dX5_drift_6 : decode cX5_drift 6 = .ok (.bipush 10, 2) := by decide +kernel
theorem dX5_drift_8 : decode cX5_drift 8 = .ok (.if_icmp .le 6, 3) := by decide +kernel
theorem dX5_drift_11 : decode cX5_drift 11 = .ok (.ldc 112, 2) := by decide +kernel
theorem dX5_drift_13 : decode cX5_drift 13 = .ok (.ireturn, 1) := by decide +kernel
theorem dX5_drift_14 : decode cX5_drift 14 = .ok (.iconst 0, 1) := by decide +kernel
theorem dX5_drift_15 : decode cX5_drift 15 = .ok (.istore_n 2, 1) := by decide +kernel
theorem dX5_drift_16 : decode cX5_drift 16 = .ok (.iload_n 2, 1) := by decide +kernel
theorem dX5_drift_17 : decode cX5_drift 17 = .ok (.iload_n 1, 1) := by decide +kernel
theorem dX5_drift_18 : decode cX5_drift 18 = .ok (.if_icmp .ge 73, 3) := by decide +kernel
theorem dX5_drift_21 : decode cX5_drift 21 = .ok (.aload_n 0, 1) := by decide +kernel
theorem dX5_drift_22 : decode cX5_drift 22 = .ok (.getfield 12, 3) := by decide +kernel
theorem dX5_drift_25 : decode cX5_drift 25 = .ok (.getfield 56, 3) := by decide +kernel
theorem dX5_drift_28 : decode cX5_drift 28 = .ok (.bipush 10, 2) := by decide +kernel
theorem dX5_drift_30 : decode cX5_drift 30 = .ok (.if_icmp .ge 61, 3) := by decide +kernel
theorem dX5_drift_33 : decode cX5_drift 33 = .ok (.aload_n 0, 1) := by decide +kernel
theorem dX5_drift_34 : decode cX5_drift 34 = .ok (.getfield 12, 3) := by decide +kernel
theorem dX5_drift_37 : decode cX5_drift 37 = .ok (.invokevirtual 204, 3) := by decide +kernel
theorem dX5_drift_40 : decode cX5_drift 40 = .ok (.istore_n 3, 1) := by decide +kernel
theorem dX5_drift_41 : decode cX5_drift 41 = .ok (.aload_n 0, 1) := by decide +kernel
theorem dX5_drift_42 : decode cX5_drift 42 = .ok (.getfield 12, 3) := by decide +kernel
theorem dX5_drift_45 : decode cX5_drift 45 = .ok (.invokevirtual 204, 3) := by decide +kernel
theorem dX5_drift_48 : decode cX5_drift 48 = .ok (.istore 4, 2) := by decide +kernel
theorem dX5_drift_50 : decode cX5_drift 50 = .ok (.aload_n 0, 1) := by decide +kernel
theorem dX5_drift_51 : decode cX5_drift 51 = .ok (.getfield 12, 3) := by decide +kernel
theorem dX5_drift_54 : decode cX5_drift 54 = .ok (.iload_n 3, 1) := by decide +kernel
theorem dX5_drift_55 : decode cX5_drift 55 = .ok (.iload 4, 2) := by decide +kernel
theorem dX5_drift_57 : decode cX5_drift 57 = .ok (.invokevirtual 180, 3) := by decide +kernel
theorem dX5_drift_60 : decode cX5_drift 60 = .ok (.iconst (-1), 1) := by decide +kernel
theorem dX5_drift_61 : decode cX5_drift 61 = .ok (.if_icmp .ne 24, 3) := by decide +kernel
theorem dX5_drift_64 : decode cX5_drift 64 = .ok (.aload_n 0, 1) := by decide +kernel
theorem dX5_drift_65 : decode cX5_drift 65 = .ok (.getfield 44, 3) := by decide +kernel
theorem dX5_drift_68 : decode cX5_drift 68 = .ok (.aload_n 0, 1) := by decide +kernel
theorem dX5_drift_69 : decode cX5_drift 69 = .ok (.getfield 12, 3) := by decide +kernel
theorem dX5_drift_72 : decode cX5_drift 72 = .ok (.invokevirtual 183, 3) := by decide +kernel
theorem dX5_drift_75 : decode cX5_drift 75 = .ok (.aload_n 0, 1) := by decide +kernel
theorem dX5_drift_76 : decode cX5_drift 76 = .ok (.getfield 12, 3) := by decide +kernel
theorem dX5_drift_79 : decode cX5_drift 79 = .ok (.iload_n 3, 1) := by decide +kernel
theorem dX5_drift_80 : decode cX5_drift 80 = .ok (.iload 4, 2) := by decide +kernel
theorem dX5_drift_82 : decode cX5_drift 82 = .ok (.invokevirtual 186, 3) := by decide +kernel
theorem dX5_drift_85 : decode cX5_drift 85 = .ok (.iinc 2 1, 3) := by decide +kernel
theorem dX5_drift_88 : decode cX5_drift 88 = .ok (.goto (-72), 3) := by decide +kernel
theorem dX5_drift_91 : decode cX5_drift 91 = .ok (.aload_n 0, 1) := by decide +kernel
theorem dX5_drift_92 : decode cX5_drift 92 = .ok (.getfield 21, 3) := by decide +kernel
theorem dX5_drift_95 : decode cX5_drift 95 = .ok (.invokevirtual 189, 3) := by decide +kernel
theorem dX5_drift_98 : decode cX5_drift 98 = .ok (.aload_n 0, 1) := by decide +kernel
theorem dX5_drift_99 : decode cX5_drift 99 = .ok (.getfield 12, 3) := by decide +kernel
theorem dX5_drift_102 : decode cX5_drift 102 = .ok (.getfield 56, 3) := by decide +kernel
theorem dX5_drift_105 : decode cX5_drift 105 = .ok (.ireturn, 1) := by decide +kernel
set_option maxRecDepth 20000 in
theorem ggX5_undo_X4_giveBack : GoodIn wsX5_undo wsX4_giveBack := goodIn_r _ [9, 10, 11, 12, 13, 14, 15, 16, 17, 18, 19, 20, 21, 22, 23, 24, 25, 26, 73, 74, 75, 76, 77, 78, 79, 80, 81, 82] (by decide +kernel) (by decide +kernel)
set_option maxRecDepth 20000 in
theorem gX5_undo_X4_giveBack_n207 : GoodIn wsX5_undo (wsX4_giveBack) := ggX5_undo_X4_giveBack
set_option maxRecDepth 20000 in
theorem ggX5_undo_X3_follow : GoodIn wsX5_undo wsX3_follow := goodIn_r _ [30, 31, 32, 33, 34, 35, 36, 37, 38, 39, 40, 28, 41, 42, 18, 43, 44, 24, 45, 46, 47, 48, 23, 49, 50, 51, 52, 53, 54, 21, 22, 55, 56, 57, 58, 59, 60, 61, 62, 63, 64, 65, 83, 84, 85, 86, 76, 77, 78, 79, 80, 81, 82] (by decide +kernel) (by decide +kernel)
set_option maxRecDepth 20000 in
theorem gX5_undo_X3_follow_n189 : GoodIn wsX5_undo (wsX3_follow) := ggX5_undo_X3_follow
theorem dX5_undo_0 : decode cX5_undo 0 = .ok (.iload_n 1, 1) := by decide +kernel
theorem dX5_undo_1 : decode cX5_undo 1 = .ok (.iconst 1, 1) := by decide +kernel
theorem dX5_undo_2 : decode cX5_undo 2 = .ok (.if_icmp .lt 9, 3) := by decide +kernel
theorem dX5_undo_5 : decode cX5_undo 5 = .ok (.iload_n 1, 1) := by decide +kernel
theorem dX5_undo_6 : decode cX5_undo 6 = .ok (.bipush 16, 2) := by decide +kernel
theorem dX5_undo_8 : decode cX5_undo 8 = .ok (.if_icmp .le 6, 3) := by decide +kernel
theorem dX5_undo_11 : decode cX5_undo 11 = .ok (.ldc 112, 2) := by decide +kernel
theorem dX5_undo_13 : decode cX5_undo 13 = .ok (.ireturn, 1) := by decide +kernel
theorem dX5_undo_14 : decode cX5_undo 14 = .ok (.iload_n 1, 1) := by decide +kernel
theorem dX5_undo_15 : decode cX5_undo 15 = .ok (.aload_n 0, 1) := by decide +kernel
theorem dX5_undo_16 : decode cX5_undo 16 = .ok (.getfield 44, 3) := by decide +kernel
theorem dX5_undo_19 : decode cX5_undo 19 = .ok (.getfield 106, 3) := by decide +kernel
theorem dX5_undo_22 : decode cX5_undo 22 = .ok (.if_icmp .le 6, 3) := by decide +kernel
theorem dX5_undo_25 : decode cX5_undo 25 = .ok (.ldc 147, 2) := by decide +kernel
theorem dX5_undo_27 : decode cX5_undo 27 = .ok (.ireturn, 1) := by decide +kernel
theorem dX5_undo_28 : decode cX5_undo 28 = .ok (.aload_n 0, 1) := by decide +kernel
theorem dX5_undo_29 : decode cX5_undo 29 = .ok (.getfield 44, 3) := by decide +kernel
theorem dX5_undo_32 : decode cX5_undo 32 = .ok (.iload_n 1, 1) := by decide +kernel
theorem dX5_undo_33 : decode cX5_undo 33 = .ok (.aload_n 0, 1) := by decide +kernel
theorem dX5_undo_34 : decode cX5_undo 34 = .ok (.getfield 12, 3) := by decide +kernel
theorem dX5_undo_37 : decode cX5_undo 37 = .ok (.invokevirtual 207, 3) := by decide +kernel
theorem dX5_undo_40 : decode cX5_undo 40 = .ok (.aload_n 0, 1) := by decide +kernel
theorem dX5_undo_41 : decode cX5_undo 41 = .ok (.getfield 21, 3) := by decide +kernel
theorem dX5_undo_44 : decode cX5_undo 44 = .ok (.invokevirtual 189, 3) := by decide +kernel
theorem dX5_undo_47 : decode cX5_undo 47 = .ok (.aload_n 0, 1) := by decide +kernel
theorem dX5_undo_48 : decode cX5_undo 48 = .ok (.getfield 44, 3) := by decide +kernel
theorem dX5_undo_51 : decode cX5_undo 51 = .ok (.getfield 106, 3) := by decide +kernel
theorem dX5_undo_54 : decode cX5_undo 54 = .ok (.ireturn, 1) := by decide +kernel
set_option maxRecDepth 20000 in
theorem ggX5_write_X1_has : GoodIn wsX5_write wsX1_has := goodIn_r _ [8, 9, 29, 30, 31, 32, 33, 34, 35] (by decide +kernel) (by decide +kernel)
set_option maxRecDepth 20000 in
theorem gX5_write_X1_has_n113 : GoodIn wsX5_write (wsX1_has) := ggX5_write_X1_has
set_option maxRecDepth 20000 in
theorem ggX5_write_X0_enter : GoodIn wsX5_write wsX0_enter := goodIn_r _ [13, 14, 15, 16, 17, 25, 26, 27, 28] (by decide +kernel) (by decide +kernel)
set_option maxRecDepth 20000 in
theorem gX5_write_X0_enter_n211 : GoodIn wsX5_write (wsX0_enter) := ggX5_write_X0_enter
theorem dX5_write_0 : decode cX5_write 0 = .ok (.aload_n 0, 1) := by decide +kernel
theorem dX5_write_1 : decode cX5_write 1 = .ok (.getfield 12, 3) := by decide +kernel
theorem dX5_write_4 : decode cX5_write 4 = .ok (.iload_n 1, 1) := by decide +kernel
theorem dX5_write_5 : decode cX5_write 5 = .ok (.invokevirtual 113, 3) := by decide +kernel
theorem dX5_write_8 : decode cX5_write 8 = .ok (.ifCond .eq 14, 3) := by decide +kernel
theorem dX5_write_11 : decode cX5_write 11 = .ok (.aload_n 0, 1) := by decide +kernel
theorem dX5_write_12 : decode cX5_write 12 = .ok (.getfield 12, 3) := by decide +kernel
theorem dX5_write_15 : decode cX5_write 15 = .ok (.iload_n 2, 1) := by decide +kernel
theorem dX5_write_16 : decode cX5_write 16 = .ok (.invokevirtual 113, 3) := by decide +kernel
theorem dX5_write_19 : decode cX5_write 19 = .ok (.ifCond .ne 6, 3) := by decide +kernel
theorem dX5_write_22 : decode cX5_write 22 = .ok (.ldc 117, 2) := by decide +kernel
theorem dX5_write_24 : decode cX5_write 24 = .ok (.ireturn, 1) := by decide +kernel
theorem dX5_write_25 : decode cX5_write 25 = .ok (.aload_n 0, 1) := by decide +kernel
theorem dX5_write_26 : decode cX5_write 26 = .ok (.getfield 37, 3) := by decide +kernel
theorem dX5_write_29 : decode cX5_write 29 = .ok (.getfield 101, 3) := by decide +kernel
theorem dX5_write_32 : decode cX5_write 32 = .ok (.bipush 20, 2) := by decide +kernel
theorem dX5_write_34 : decode cX5_write 34 = .ok (.if_icmp .lt 6, 3) := by decide +kernel
theorem dX5_write_37 : decode cX5_write 37 = .ok (.ldc 179, 2) := by decide +kernel
theorem dX5_write_39 : decode cX5_write 39 = .ok (.ireturn, 1) := by decide +kernel
theorem dX5_write_40 : decode cX5_write 40 = .ok (.aload_n 0, 1) := by decide +kernel
theorem dX5_write_41 : decode cX5_write 41 = .ok (.getfield 37, 3) := by decide +kernel
theorem dX5_write_44 : decode cX5_write 44 = .ok (.iload_n 1, 1) := by decide +kernel
theorem dX5_write_45 : decode cX5_write 45 = .ok (.iload_n 2, 1) := by decide +kernel
theorem dX5_write_46 : decode cX5_write 46 = .ok (.iload_n 3, 1) := by decide +kernel
theorem dX5_write_47 : decode cX5_write 47 = .ok (.invokevirtual 211, 3) := by decide +kernel
theorem dX5_write_50 : decode cX5_write 50 = .ok (.aload_n 0, 1) := by decide +kernel
theorem dX5_write_51 : decode cX5_write 51 = .ok (.getfield 37, 3) := by decide +kernel
theorem dX5_write_54 : decode cX5_write 54 = .ok (.getfield 101, 3) := by decide +kernel
theorem dX5_write_57 : decode cX5_write 57 = .ok (.ireturn, 1) := by decide +kernel
theorem dX5_tear_0 : decode cX5_tear 0 = .ok (.aload_n 0, 1) := by decide +kernel
theorem dX5_tear_1 : decode cX5_tear 1 = .ok (.getfield 37, 3) := by decide +kernel
theorem dX5_tear_4 : decode cX5_tear 4 = .ok (.getfield 101, 3) := by decide +kernel
theorem dX5_tear_7 : decode cX5_tear 7 = .ok (.istore_n 1, 1) := by decide +kernel
theorem dX5_tear_8 : decode cX5_tear 8 = .ok (.aload_n 0, 1) := by decide +kernel
theorem dX5_tear_9 : decode cX5_tear 9 = .ok (.getfield 37, 3) := by decide +kernel
theorem dX5_tear_12 : decode cX5_tear 12 = .ok (.iconst 0, 1) := by decide +kernel
theorem dX5_tear_13 : decode cX5_tear 13 = .ok (.putfield 101, 3) := by decide +kernel
theorem dX5_tear_16 : decode cX5_tear 16 = .ok (.iload_n 1, 1) := by decide +kernel
theorem dX5_tear_17 : decode cX5_tear 17 = .ok (.ireturn, 1) := by decide +kernel
theorem dX5_seed_0 : decode cX5_seed 0 = .ok (.iload_n 1, 1) := by decide +kernel
theorem dX5_seed_1 : decode cX5_seed 1 = .ok (.ifCond .ge 6, 3) := by decide +kernel
theorem dX5_seed_4 : decode cX5_seed 4 = .ok (.ldc 112, 2) := by decide +kernel
theorem dX5_seed_6 : decode cX5_seed 6 = .ok (.ireturn, 1) := by decide +kernel
theorem dX5_seed_7 : decode cX5_seed 7 = .ok (.aload_n 0, 1) := by decide +kernel
theorem dX5_seed_8 : decode cX5_seed 8 = .ok (.getfield 12, 3) := by decide +kernel
theorem dX5_seed_11 : decode cX5_seed 11 = .ok (.getfield 109, 3) := by decide +kernel
theorem dX5_seed_14 : decode cX5_seed 14 = .ok (.istore_n 2, 1) := by decide +kernel
theorem dX5_seed_15 : decode cX5_seed 15 = .ok (.aload_n 0, 1) := by decide +kernel
theorem dX5_seed_16 : decode cX5_seed 16 = .ok (.getfield 12, 3) := by decide +kernel
theorem dX5_seed_19 : decode cX5_seed 19 = .ok (.iload_n 1, 1) := by decide +kernel
theorem dX5_seed_20 : decode cX5_seed 20 = .ok (.putfield 109, 3) := by decide +kernel
theorem dX5_seed_23 : decode cX5_seed 23 = .ok (.iload_n 2, 1) := by decide +kernel
theorem dX5_seed_24 : decode cX5_seed 24 = .ok (.ireturn, 1) := by decide +kernel
set_option maxRecDepth 20000 in
theorem ggX5_keep_X1_copyNet : GoodIn wsX5_keep wsX1_copyNet := goodIn_r _ [9, 10, 11, 12, 13, 14, 15, 23, 24, 25, 26, 27, 28, 29] (by decide +kernel) (by decide +kernel)
set_option maxRecDepth 20000 in
theorem gX5_keep_X1_copyNet_n215 : GoodIn wsX5_keep (wsX1_copyNet) := ggX5_keep_X1_copyNet
theorem dX5_keep_0 : decode cX5_keep 0 = .ok (.iload_n 1, 1) := by decide +kernel
theorem dX5_keep_1 : decode cX5_keep 1 = .ok (.ifCond .lt 8, 3) := by decide +kernel
theorem dX5_keep_4 : decode cX5_keep 4 = .ok (.iload_n 1, 1) := by decide +kernel
theorem dX5_keep_5 : decode cX5_keep 5 = .ok (.iconst 2, 1) := by decide +kernel
theorem dX5_keep_6 : decode cX5_keep 6 = .ok (.if_icmp .lt 6, 3) := by decide +kernel
theorem dX5_keep_9 : decode cX5_keep 9 = .ok (.ldc 117, 2) := by decide +kernel
theorem dX5_keep_11 : decode cX5_keep 11 = .ok (.ireturn, 1) := by decide +kernel
theorem dX5_keep_12 : decode cX5_keep 12 = .ok (.aload_n 0, 1) := by decide +kernel
theorem dX5_keep_13 : decode cX5_keep 13 = .ok (.getfield 48, 3) := by decide +kernel
theorem dX5_keep_16 : decode cX5_keep 16 = .ok (.iload_n 1, 1) := by decide +kernel
theorem dX5_keep_17 : decode cX5_keep 17 = .ok (.aaload, 1) := by decide +kernel
theorem dX5_keep_18 : decode cX5_keep 18 = .ok (.aload_n 0, 1) := by decide +kernel
theorem dX5_keep_19 : decode cX5_keep 19 = .ok (.getfield 12, 3) := by decide +kernel
theorem dX5_keep_22 : decode cX5_keep 22 = .ok (.invokevirtual 215, 3) := by decide +kernel
theorem dX5_keep_25 : decode cX5_keep 25 = .ok (.aload_n 0, 1) := by decide +kernel
theorem dX5_keep_26 : decode cX5_keep 26 = .ok (.getfield 48, 3) := by decide +kernel
theorem dX5_keep_29 : decode cX5_keep 29 = .ok (.iload_n 1, 1) := by decide +kernel
theorem dX5_keep_30 : decode cX5_keep 30 = .ok (.aaload, 1) := by decide +kernel
theorem dX5_keep_31 : decode cX5_keep 31 = .ok (.aload_n 0, 1) := by decide +kernel
theorem dX5_keep_32 : decode cX5_keep 32 = .ok (.getfield 12, 3) := by decide +kernel
theorem dX5_keep_35 : decode cX5_keep 35 = .ok (.getfield 109, 3) := by decide +kernel
theorem dX5_keep_38 : decode cX5_keep 38 = .ok (.putfield 109, 3) := by decide +kernel
theorem dX5_keep_41 : decode cX5_keep 41 = .ok (.aload_n 0, 1) := by decide +kernel
theorem dX5_keep_42 : decode cX5_keep 42 = .ok (.dup, 1) := by decide +kernel
theorem dX5_keep_43 : decode cX5_keep 43 = .ok (.getfield 52, 3) := by decide +kernel
theorem dX5_keep_46 : decode cX5_keep 46 = .ok (.iconst 1, 1) := by decide +kernel
theorem dX5_keep_47 : decode cX5_keep 47 = .ok (.iload_n 1, 1) := by decide +kernel
theorem dX5_keep_48 : decode cX5_keep 48 = .ok (.ishl, 1) := by decide +kernel
theorem dX5_keep_49 : decode cX5_keep 49 = .ok (.ior, 1) := by decide +kernel
theorem dX5_keep_50 : decode cX5_keep 50 = .ok (.putfield 52, 3) := by decide +kernel
theorem dX5_keep_53 : decode cX5_keep 53 = .ok (.aload_n 0, 1) := by decide +kernel
theorem dX5_keep_54 : decode cX5_keep 54 = .ok (.getfield 44, 3) := by decide +kernel
theorem dX5_keep_57 : decode cX5_keep 57 = .ok (.iconst 0, 1) := by decide +kernel
theorem dX5_keep_58 : decode cX5_keep 58 = .ok (.putfield 106, 3) := by decide +kernel
theorem dX5_keep_61 : decode cX5_keep 61 = .ok (.iconst 1, 1) := by decide +kernel
theorem dX5_keep_62 : decode cX5_keep 62 = .ok (.ireturn, 1) := by decide +kernel
set_option maxRecDepth 20000 in
theorem ggX5_goBack_X5_holds : GoodIn wsX5_goBack wsX5_holds := goodIn_r _ [11] (by decide +kernel) (by decide +kernel)
set_option maxRecDepth 20000 in
theorem gX5_goBack_X5_holds : GoodIn wsX5_goBack (va_wsS RX5 141 yX5_holds wsX5_holds) := goodIn_app (goodIn_of _ (by decide +kernel)) ggX5_goBack_X5_holds
set_option maxRecDepth 20000 in
theorem ggX5_goBack_X1_copyNet : GoodIn wsX5_goBack wsX1_copyNet := goodIn_r _ [15, 16, 17, 18, 19, 20, 21, 65, 66, 67, 68, 69, 70, 71] (by decide +kernel) (by decide +kernel)
set_option maxRecDepth 20000 in
theorem gX5_goBack_X1_copyNet_n215 : GoodIn wsX5_goBack (wsX1_copyNet) := ggX5_goBack_X1_copyNet
set_option maxRecDepth 20000 in
theorem ggX5_goBack_X3_follow : GoodIn wsX5_goBack wsX3_follow := goodIn_r _ [25, 26, 27, 28, 29, 30, 31, 32, 33, 34, 35, 23, 36, 37, 13, 38, 39, 19, 40, 41, 42, 43, 18, 9, 10, 11, 44, 45, 46, 16, 17, 47, 48, 49, 50, 51, 52, 53, 54, 55, 56, 57, 75, 76, 77, 78, 65, 66, 67, 68, 69, 70, 71] (by decide +kernel) (by decide +kernel)
set_option maxRecDepth 20000 in
theorem gX5_goBack_X3_follow_n189 : GoodIn wsX5_goBack (wsX3_follow) := ggX5_goBack_X3_follow
theorem dX5_goBack_0 : decode cX5_goBack 0 = .ok (.iload_n 1, 1) := by decide +kernel
theorem dX5_goBack_1 : decode cX5_goBack 1 = .ok (.ifCond .lt 8, 3) := by decide +kernel
theorem dX5_goBack_4 : decode cX5_goBack 4 = .ok (.iload_n 1, 1) := by decide +kernel
theorem dX5_goBack_5 : decode cX5_goBack 5 = .ok (.iconst 2, 1) := by decide +kernel
theorem dX5_goBack_6 : decode cX5_goBack 6 = .ok (.if_icmp .lt 6, 3) := by decide +kernel
theorem dX5_goBack_9 : decode cX5_goBack 9 = .ok (.ldc 117, 2) := by decide +kernel
theorem dX5_goBack_11 : decode cX5_goBack 11 = .ok (.ireturn, 1) := by decide +kernel
theorem dX5_goBack_12 : decode cX5_goBack 12 = .ok (.aload_n 0, 1) := by decide +kernel
theorem dX5_goBack_13 : decode cX5_goBack 13 = .ok (.getfield 52, 3) := by decide +kernel
theorem dX5_goBack_16 : decode cX5_goBack 16 = .ok (.iload_n 1, 1) := by decide +kernel
theorem dX5_goBack_17 : decode cX5_goBack 17 = .ok (.invokestatic 141, 3) := by decide +kernel
theorem dX5_goBack_20 : decode cX5_goBack 20 = .ok (.ifCond .ne 6, 3) := by decide +kernel
theorem dX5_goBack_23 : decode cX5_goBack 23 = .ok (.ldc 147, 2) := by decide +kernel
theorem dX5_goBack_25 : decode cX5_goBack 25 = .ok (.ireturn, 1) := by decide +kernel
theorem dX5_goBack_26 : decode cX5_goBack 26 = .ok (.aload_n 0, 1) := by decide +kernel
theorem dX5_goBack_27 : decode cX5_goBack 27 = .ok (.getfield 12, 3) := by decide +kernel
theorem dX5_goBack_30 : decode cX5_goBack 30 = .ok (.aload_n 0, 1) := by decide +kernel
theorem dX5_goBack_31 : decode cX5_goBack 31 = .ok (.getfield 48, 3) := by decide +kernel
theorem dX5_goBack_34 : decode cX5_goBack 34 = .ok (.iload_n 1, 1) := by decide +kernel
theorem dX5_goBack_35 : decode cX5_goBack 35 = .ok (.aaload, 1) := by decide +kernel
theorem dX5_goBack_36 : decode cX5_goBack 36 = .ok (.invokevirtual 215, 3) := by decide +kernel
theorem dX5_goBack_39 : decode cX5_goBack 39 = .ok (.aload_n 0, 1) := by decide +kernel
theorem dX5_goBack_40 : decode cX5_goBack 40 = .ok (.getfield 12, 3) := by decide +kernel
theorem dX5_goBack_43 : decode cX5_goBack 43 = .ok (.aload_n 0, 1) := by decide +kernel
theorem dX5_goBack_44 : decode cX5_goBack 44 = .ok (.getfield 48, 3) := by decide +kernel
theorem dX5_goBack_47 : decode cX5_goBack 47 = .ok (.iload_n 1, 1) := by decide +kernel
theorem dX5_goBack_48 : decode cX5_goBack 48 = .ok (.aaload, 1) := by decide +kernel
theorem dX5_goBack_49 : decode cX5_goBack 49 = .ok (.getfield 109, 3) := by decide +kernel
theorem dX5_goBack_52 : decode cX5_goBack 52 = .ok (.putfield 109, 3) := by decide +kernel
theorem dX5_goBack_55 : decode cX5_goBack 55 = .ok (.aload_n 0, 1) := by decide +kernel
theorem dX5_goBack_56 : decode cX5_goBack 56 = .ok (.getfield 44, 3) := by decide +kernel
theorem dX5_goBack_59 : decode cX5_goBack 59 = .ok (.iconst 0, 1) := by decide +kernel
theorem dX5_goBack_60 : decode cX5_goBack 60 = .ok (.putfield 106, 3) := by decide +kernel
theorem dX5_goBack_63 : decode cX5_goBack 63 = .ok (.aload_n 0, 1) := by decide +kernel
theorem dX5_goBack_64 : decode cX5_goBack 64 = .ok (.getfield 21, 3) := by decide +kernel
theorem dX5_goBack_67 : decode cX5_goBack 67 = .ok (.invokevirtual 189, 3) := by decide +kernel
theorem dX5_goBack_70 : decode cX5_goBack 70 = .ok (.iconst 1, 1) := by decide +kernel
theorem dX5_goBack_71 : decode cX5_goBack 71 = .ok (.ireturn, 1) := by decide +kernel
set_option maxRecDepth 20000 in
theorem ggX5_areTwo_X1_has : GoodIn wsX5_areTwo wsX1_has := goodIn_r _ [5, 6, 14, 15, 16, 17, 18, 19, 20] (by decide +kernel) (by decide +kernel)
set_option maxRecDepth 20000 in
theorem gX5_areTwo_X1_has_n113 : GoodIn wsX5_areTwo (wsX1_has) := ggX5_areTwo_X1_has
theorem dX5_areTwo_0 : decode cX5_areTwo 0 = .ok (.iload_n 1, 1) := by decide +kernel
theorem dX5_areTwo_1 : decode cX5_areTwo 1 = .ok (.iload_n 2, 1) := by decide +kernel
theorem dX5_areTwo_2 : decode cX5_areTwo 2 = .ok (.if_icmp .eq 29, 3) := by decide +kernel
theorem dX5_areTwo_5 : decode cX5_areTwo 5 = .ok (.aload_n 0, 1) := by decide +kernel
theorem dX5_areTwo_6 : decode cX5_areTwo 6 = .ok (.getfield 12, 3) := by decide +kernel
theorem dX5_areTwo_9 : decode cX5_areTwo 9 = .ok (.iload_n 1, 1) := by decide +kernel
theorem dX5_areTwo_10 : decode cX5_areTwo 10 = .ok (.invokevirtual 113, 3) := by decide +kernel
theorem dX5_areTwo_13 : decode cX5_areTwo 13 = .ok (.ifCond .eq 18, 3) := by decide +kernel
theorem dX5_areTwo_16 : decode cX5_areTwo 16 = .ok (.aload_n 0, 1) := by decide +kernel
theorem dX5_areTwo_17 : decode cX5_areTwo 17 = .ok (.getfield 12, 3) := by decide +kernel
theorem dX5_areTwo_20 : decode cX5_areTwo 20 = .ok (.iload_n 2, 1) := by decide +kernel
theorem dX5_areTwo_21 : decode cX5_areTwo 21 = .ok (.invokevirtual 113, 3) := by decide +kernel
theorem dX5_areTwo_24 : decode cX5_areTwo 24 = .ok (.ifCond .eq 7, 3) := by decide +kernel
theorem dX5_areTwo_27 : decode cX5_areTwo 27 = .ok (.iconst 1, 1) := by decide +kernel
theorem dX5_areTwo_28 : decode cX5_areTwo 28 = .ok (.goto 4, 3) := by decide +kernel
theorem dX5_areTwo_31 : decode cX5_areTwo 31 = .ok (.iconst 0, 1) := by decide +kernel
theorem dX5_areTwo_32 : decode cX5_areTwo 32 = .ok (.ireturn, 1) := by decide +kernel
theorem dX5_isPlace_0 : decode cX5_isPlace 0 = .ok (.iload_n 0, 1) := by decide +kernel
theorem dX5_isPlace_1 : decode cX5_isPlace 1 = .ok (.ifCond .lt 23, 3) := by decide +kernel
theorem dX5_isPlace_4 : decode cX5_isPlace 4 = .ok (.iload_n 0, 1) := by decide +kernel
theorem dX5_isPlace_5 : decode cX5_isPlace 5 = .ok (.bipush 64, 2) := by decide +kernel
theorem dX5_isPlace_7 : decode cX5_isPlace 7 = .ok (.if_icmp .ge 17, 3) := by decide +kernel
theorem dX5_isPlace_10 : decode cX5_isPlace 10 = .ok (.iload_n 1, 1) := by decide +kernel
theorem dX5_isPlace_11 : decode cX5_isPlace 11 = .ok (.ifCond .lt 13, 3) := by decide +kernel
theorem dX5_isPlace_14 : decode cX5_isPlace 14 = .ok (.iload_n 1, 1) := by decide +kernel
theorem dX5_isPlace_15 : decode cX5_isPlace 15 = .ok (.bipush 64, 2) := by decide +kernel
theorem dX5_isPlace_17 : decode cX5_isPlace 17 = .ok (.if_icmp .ge 7, 3) := by decide +kernel
theorem dX5_isPlace_20 : decode cX5_isPlace 20 = .ok (.iconst 1, 1) := by decide +kernel
theorem dX5_isPlace_21 : decode cX5_isPlace 21 = .ok (.goto 4, 3) := by decide +kernel
theorem dX5_isPlace_24 : decode cX5_isPlace 24 = .ok (.iconst 0, 1) := by decide +kernel
theorem dX5_isPlace_25 : decode cX5_isPlace 25 = .ok (.ireturn, 1) := by decide +kernel
theorem dX5_holds_0 : decode cX5_holds 0 = .ok (.iload_n 0, 1) := by decide +kernel
theorem dX5_holds_1 : decode cX5_holds 1 = .ok (.iload_n 1, 1) := by decide +kernel
theorem dX5_holds_2 : decode cX5_holds 2 = .ok (.ishr, 1) := by decide +kernel
theorem dX5_holds_3 : decode cX5_holds 3 = .ok (.iconst 1, 1) := by decide +kernel
theorem dX5_holds_4 : decode cX5_holds 4 = .ok (.iand, 1) := by decide +kernel
theorem dX5_holds_5 : decode cX5_holds 5 = .ok (.iconst 1, 1) := by decide +kernel
theorem dX5_holds_6 : decode cX5_holds 6 = .ok (.if_icmp .ne 7, 3) := by decide +kernel
theorem dX5_holds_9 : decode cX5_holds 9 = .ok (.iconst 1, 1) := by decide +kernel
theorem dX5_holds_10 : decode cX5_holds 10 = .ok (.goto 4, 3) := by decide +kernel
theorem dX5_holds_13 : decode cX5_holds 13 = .ok (.iconst 0, 1) := by decide +kernel
theorem dX5_holds_14 : decode cX5_holds 14 = .ok (.ireturn, 1) := by decide +kernel
theorem dX6_init_0 : decode cX6_init 0 = .ok (.aload_n 0, 1) := by decide +kernel
theorem dX6_init_1 : decode cX6_init 1 = .ok (.invokespecial 1, 3) := by decide +kernel
theorem dX6_init_4 : decode cX6_init 4 = .ok (.aload_n 0, 1) := by decide +kernel
theorem dX6_init_5 : decode cX6_init 5 = .ok (.bipush 24, 2) := by decide +kernel
theorem dX6_init_7 : decode cX6_init 7 = .ok (.newarray .int, 2) := by decide +kernel
theorem dX6_init_9 : decode cX6_init 9 = .ok (.putfield 7, 3) := by decide +kernel
theorem dX6_init_12 : decode cX6_init 12 = .ok (.aload_n 0, 1) := by decide +kernel
theorem dX6_init_13 : decode cX6_init 13 = .ok (.sipush 384, 3) := by decide +kernel
theorem dX6_init_16 : decode cX6_init 16 = .ok (.newarray .int, 2) := by decide +kernel
theorem dX6_init_18 : decode cX6_init 18 = .ok (.putfield 13, 3) := by decide +kernel
theorem dX6_init_21 : decode cX6_init 21 = .ok (.aload_n 0, 1) := by decide +kernel
theorem dX6_init_22 : decode cX6_init 22 = .ok (.iconst 2, 1) := by decide +kernel
theorem dX6_init_23 : decode cX6_init 23 = .ok (.newarray .boolean, 2) := by decide +kernel
theorem dX6_init_25 : decode cX6_init 25 = .ok (.putfield 16, 3) := by decide +kernel
theorem dX6_init_28 : decode cX6_init 28 = .ok (.aload_n 0, 1) := by decide +kernel
theorem dX6_init_29 : decode cX6_init 29 = .ok (.bipush 50, 2) := by decide +kernel
theorem dX6_init_31 : decode cX6_init 31 = .ok (.newarray .int, 2) := by decide +kernel
theorem dX6_init_33 : decode cX6_init 33 = .ok (.putfield 20, 3) := by decide +kernel
theorem dX6_init_36 : decode cX6_init 36 = .ok (.aload_n 0, 1) := by decide +kernel
theorem dX6_init_37 : decode cX6_init 37 = .ok (.bipush 20, 2) := by decide +kernel
theorem dX6_init_39 : decode cX6_init 39 = .ok (.newarray .int, 2) := by decide +kernel
theorem dX6_init_41 : decode cX6_init 41 = .ok (.putfield 23, 3) := by decide +kernel
theorem dX6_init_44 : decode cX6_init 44 = .ok (.aload_n 0, 1) := by decide +kernel
theorem dX6_init_45 : decode cX6_init 45 = .ok (.bipush 20, 2) := by decide +kernel
theorem dX6_init_47 : decode cX6_init 47 = .ok (.newarray .int, 2) := by decide +kernel
theorem dX6_init_49 : decode cX6_init 49 = .ok (.putfield 26, 3) := by decide +kernel
theorem dX6_init_52 : decode cX6_init 52 = .ok (.aload_n 0, 1) := by decide +kernel
theorem dX6_init_53 : decode cX6_init 53 = .ok (.bipush 20, 2) := by decide +kernel
theorem dX6_init_55 : decode cX6_init 55 = .ok (.newarray .int, 2) := by decide +kernel
theorem dX6_init_57 : decode cX6_init 57 = .ok (.putfield 29, 3) := by decide +kernel
theorem dX6_init_60 : decode cX6_init 60 = .ok (.aload_n 0, 1) := by decide +kernel
theorem dX6_init_61 : decode cX6_init 61 = .ok (.sipush 201, 3) := by decide +kernel
theorem dX6_init_64 : decode cX6_init 64 = .ok (.newarray .int, 2) := by decide +kernel
theorem dX6_init_66 : decode cX6_init 66 = .ok (.putfield 32, 3) := by decide +kernel
theorem dX6_init_69 : decode cX6_init 69 = .ok (.aload_n 0, 1) := by decide +kernel
theorem dX6_init_70 : decode cX6_init 70 = .ok (.sipush 4000, 3) := by decide +kernel
theorem dX6_init_73 : decode cX6_init 73 = .ok (.newarray .int, 2) := by decide +kernel
theorem dX6_init_75 : decode cX6_init 75 = .ok (.putfield 35, 3) := by decide +kernel
theorem dX6_init_78 : decode cX6_init 78 = .ok (.aload_n 0, 1) := by decide +kernel
theorem dX6_init_79 : decode cX6_init 79 = .ok (.getfield 7, 3) := by decide +kernel
theorem dX6_init_82 : decode cX6_init 82 = .ok (.iconst 1, 1) := by decide +kernel
theorem dX6_init_83 : decode cX6_init 83 = .ok (.sipush 400, 3) := by decide +kernel
theorem dX6_init_86 : decode cX6_init 86 = .ok (.iastore, 1) := by decide +kernel
theorem dX6_init_87 : decode cX6_init 87 = .ok (.return_, 1) := by decide +kernel
theorem dX6_in_0 : decode cX6_in 0 = .ok (.iload_n 0, 1) := by decide +kernel
theorem dX6_in_1 : decode cX6_in 1 = .ok (.iload_n 1, 1) := by decide +kernel
theorem dX6_in_2 : decode cX6_in 2 = .ok (.if_icmp .lt 12, 3) := by decide +kernel
theorem dX6_in_5 : decode cX6_in 5 = .ok (.iload_n 0, 1) := by decide +kernel
theorem dX6_in_6 : decode cX6_in 6 = .ok (.iload_n 2, 1) := by decide +kernel
theorem dX6_in_7 : decode cX6_in 7 = .ok (.if_icmp .gt 7, 3) := by decide +kernel
theorem dX6_in_10 : decode cX6_in 10 = .ok (.iconst 1, 1) := by decide +kernel
theorem dX6_in_11 : decode cX6_in 11 = .ok (.goto 4, 3) := by decide +kernel
theorem dX6_in_14 : decode cX6_in 14 = .ok (.iconst 0, 1) := by decide +kernel
theorem dX6_in_15 : decode cX6_in 15 = .ok (.ireturn, 1) := by decide +kernel
theorem dX6_has_0 : decode cX6_has 0 = .ok (.iload_n 0, 1) := by decide +kernel
theorem dX6_has_1 : decode cX6_has 1 = .ok (.iload_n 1, 1) := by decide +kernel
theorem dX6_has_2 : decode cX6_has 2 = .ok (.ishr, 1) := by decide +kernel
theorem dX6_has_3 : decode cX6_has 3 = .ok (.iconst 1, 1) := by decide +kernel
theorem dX6_has_4 : decode cX6_has 4 = .ok (.iand, 1) := by decide +kernel
theorem dX6_has_5 : decode cX6_has 5 = .ok (.iconst 1, 1) := by decide +kernel
theorem dX6_has_6 : decode cX6_has 6 = .ok (.if_icmp .ne 7, 3) := by decide +kernel
theorem dX6_has_9 : decode cX6_has 9 = .ok (.iconst 1, 1) := by decide +kernel
theorem dX6_has_10 : decode cX6_has 10 = .ok (.goto 4, 3) := by decide +kernel
theorem dX6_has_13 : decode cX6_has 13 = .ok (.iconst 0, 1) := by decide +kernel
theorem dX6_has_14 : decode cX6_has 14 = .ok (.ireturn, 1) := by decide +kernel
set_option maxRecDepth 20000 in
theorem ggX6_isNode_X6_in : GoodIn wsX6_isNode wsX6_in := goodIn_r _ [5] (by decide +kernel) (by decide +kernel)
set_option maxRecDepth 20000 in
theorem gX6_isNode_X6_in : GoodIn wsX6_isNode (va_wsS RX6 38 yX6_in wsX6_in) := goodIn_app (goodIn_of _ (by decide +kernel)) ggX6_isNode_X6_in
theorem dX6_isNode_0 : decode cX6_isNode 0 = .ok (.iload_n 1, 1) := by decide +kernel
theorem dX6_isNode_1 : decode cX6_isNode 1 = .ok (.iconst 0, 1) := by decide +kernel
theorem dX6_isNode_2 : decode cX6_isNode 2 = .ok (.aload_n 0, 1) := by decide +kernel
theorem dX6_isNode_3 : decode cX6_isNode 3 = .ok (.getfield 7, 3) := by decide +kernel
theorem dX6_isNode_6 : decode cX6_isNode 6 = .ok (.iconst 0, 1) := by decide +kernel
theorem dX6_isNode_7 : decode cX6_isNode 7 = .ok (.iaload, 1) := by decide +kernel
theorem dX6_isNode_8 : decode cX6_isNode 8 = .ok (.iconst 1, 1) := by decide +kernel
theorem dX6_isNode_9 : decode cX6_isNode 9 = .ok (.isub, 1) := by decide +kernel
theorem dX6_isNode_10 : decode cX6_isNode 10 = .ok (.invokestatic 38, 3) := by decide +kernel
theorem dX6_isNode_13 : decode cX6_isNode 13 = .ok (.ireturn, 1) := by decide +kernel
set_option maxRecDepth 20000 in
theorem ggX6_isAwake_X6_has : GoodIn wsX6_isAwake wsX6_has := goodIn_r _ [5] (by decide +kernel) (by decide +kernel)
set_option maxRecDepth 20000 in
theorem gX6_isAwake_X6_has : GoodIn wsX6_isAwake (va_wsS RX6 42 yX6_has wsX6_has) := goodIn_app (goodIn_of _ (by decide +kernel)) ggX6_isAwake_X6_has
theorem dX6_isAwake_0 : decode cX6_isAwake 0 = .ok (.aload_n 0, 1) := by decide +kernel
theorem dX6_isAwake_1 : decode cX6_isAwake 1 = .ok (.getfield 7, 3) := by decide +kernel
theorem dX6_isAwake_4 : decode cX6_isAwake 4 = .ok (.iconst 3, 1) := by decide +kernel
theorem dX6_isAwake_5 : decode cX6_isAwake 5 = .ok (.iaload, 1) := by decide +kernel
theorem dX6_isAwake_6 : decode cX6_isAwake 6 = .ok (.iload_n 1, 1) := by decide +kernel
theorem dX6_isAwake_7 : decode cX6_isAwake 7 = .ok (.invokestatic 42, 3) := by decide +kernel
theorem dX6_isAwake_10 : decode cX6_isAwake 10 = .ok (.ireturn, 1) := by decide +kernel
theorem dX6_farOf_0 : decode cX6_farOf 0 = .ok (.aload_n 0, 1) := by decide +kernel
theorem dX6_farOf_1 : decode cX6_farOf 1 = .ok (.getfield 7, 3) := by decide +kernel
theorem dX6_farOf_4 : decode cX6_farOf 4 = .ok (.iconst 4, 1) := by decide +kernel
theorem dX6_farOf_5 : decode cX6_farOf 5 = .ok (.iload_n 1, 1) := by decide +kernel
theorem dX6_farOf_6 : decode cX6_farOf 6 = .ok (.iadd, 1) := by decide +kernel
theorem dX6_farOf_7 : decode cX6_farOf 7 = .ok (.iaload, 1) := by decide +kernel
theorem dX6_farOf_8 : decode cX6_farOf 8 = .ok (.aload_n 0, 1) := by decide +kernel
theorem dX6_farOf_9 : decode cX6_farOf 9 = .ok (.getfield 7, 3) := by decide +kernel
theorem dX6_farOf_12 : decode cX6_farOf 12 = .ok (.iconst 4, 1) := by decide +kernel
theorem dX6_farOf_13 : decode cX6_farOf 13 = .ok (.iload_n 2, 1) := by decide +kernel
theorem dX6_farOf_14 : decode cX6_farOf 14 = .ok (.iadd, 1) := by decide +kernel
theorem dX6_farOf_15 : decode cX6_farOf 15 = .ok (.iaload, 1) := by decide +kernel
theorem dX6_farOf_16 : decode cX6_farOf 16 = .ok (.isub, 1) := by decide +kernel
theorem dX6_farOf_17 : decode cX6_farOf 17 = .ok (.istore_n 3, 1) := by decide +kernel
theorem dX6_farOf_18 : decode cX6_farOf 18 = .ok (.aload_n 0, 1) := by decide +kernel
theorem dX6_farOf_19 : decode cX6_farOf 19 = .ok (.getfield 7, 3) := by decide +kernel
theorem dX6_farOf_22 : decode cX6_farOf 22 = .ok (.bipush 14, 2) := by decide +kernel
theorem dX6_farOf_24 : decode cX6_farOf 24 = .ok (.iload_n 1, 1) := by decide +kernel
theorem dX6_farOf_25 : decode cX6_farOf 25 = .ok (.iadd, 1) := by decide +kernel
theorem dX6_farOf_26 : decode cX6_farOf 26 = .ok (.iaload, 1) := by decide +kernel
theorem dX6_farOf_27 : decode cX6_farOf 27 = .ok (.aload_n 0, 1) := by decide +kernel
theorem dX6_farOf_28 : decode cX6_farOf 28 = .ok (.getfield 7, 3) := by decide +kernel
theorem dX6_farOf_31 : decode cX6_farOf 31 = .ok (.bipush 14, 2) := by decide +kernel
theorem dX6_farOf_33 : decode cX6_farOf 33 = .ok (.iload_n 2, 1) := by decide +kernel
theorem dX6_farOf_34 : decode cX6_farOf 34 = .ok (.iadd, 1) := by decide +kernel
theorem dX6_farOf_35 : decode cX6_farOf 35 = .ok (.iaload, 1) := by decide +kernel
theorem dX6_farOf_36 : decode cX6_farOf 36 = .ok (.isub, 1) := by decide +kernel
theorem dX6_farOf_37 : decode cX6_farOf 37 = .ok (.istore 4, 2) := by decide +kernel
theorem dX6_farOf_39 : decode cX6_farOf 39 = .ok (.iload_n 3, 1) := by decide +kernel
theorem dX6_farOf_40 : decode cX6_farOf 40 = .ok (.iload_n 3, 1) := by decide +kernel
theorem dX6_farOf_41 : decode cX6_farOf 41 = .ok (.imul, 1) := by decide +kernel
theorem dX6_farOf_42 : decode cX6_farOf 42 = .ok (.iload 4, 2) := by decide +kernel
theorem dX6_farOf_44 : decode cX6_farOf 44 = .ok (.iload 4, 2) := by decide +kernel
theorem dX6_farOf_46 : decode cX6_farOf 46 = .ok (.imul, 1) := by decide +kernel
theorem dX6_farOf_47 : decode cX6_farOf 47 = .ok (.iadd, 1) := by decide +kernel
theorem dX6_farOf_48 : decode cX6_farOf 48 = .ok (.ireturn, 1) := by decide +kernel
set_option maxRecDepth 20000 in
theorem ggX6_areLinked_X6_isAwake : GoodIn wsX6_areLinked wsX6_isAwake := goodIn_r _ [6, 1, 7, 8, 5, 9, 14, 15, 16, 17, 18, 19, 20, 21, 22, 23, 24, 25, 26, 27, 28, 29, 30, 31, 32, 33, 34, 35, 36, 37, 38, 39] (by decide +kernel) (by decide +kernel)
set_option maxRecDepth 20000 in
theorem gX6_areLinked_X6_isAwake : GoodIn wsX6_areLinked (wsV RX6 46 RX6 yX6_isAwake wsX6_isAwake) := goodIn_app (goodIn_of _ (by decide +kernel)) ggX6_areLinked_X6_isAwake
set_option maxRecDepth 20000 in
theorem ggX6_areLinked_X6_farOf : GoodIn wsX6_areLinked wsX6_farOf := goodIn_r _ [13, 1, 14, 15, 16, 17, 18, 19, 20, 21, 22, 23, 24, 25, 26, 27, 28, 29, 30, 31, 32, 33, 34, 35, 36, 37, 38, 39] (by decide +kernel) (by decide +kernel)
set_option maxRecDepth 20000 in
theorem gX6_areLinked_X6_farOf : GoodIn wsX6_areLinked (wsV RX6 50 RX6 yX6_farOf wsX6_farOf) := goodIn_app (goodIn_of _ (by decide +kernel)) ggX6_areLinked_X6_farOf
theorem dX6_areLinked_0 : decode cX6_areLinked 0 = .ok (.iload_n 1, 1) := by decide +kernel
theorem dX6_areLinked_1 : decode cX6_areLinked 1 = .ok (.iload_n 2, 1) := by decide +kernel
theorem dX6_areLinked_2 : decode cX6_areLinked 2 = .ok (.if_icmp .eq 38, 3) := by decide +kernel
theorem dX6_areLinked_5 : decode cX6_areLinked 5 = .ok (.aload_n 0, 1) := by decide +kernel
theorem dX6_areLinked_6 : decode cX6_areLinked 6 = .ok (.iload_n 1, 1) := by decide +kernel
theorem dX6_areLinked_7 : decode cX6_areLinked 7 = .ok (.invokevirtual 46, 3) := by decide +kernel
theorem dX6_areLinked_10 : decode cX6_areLinked 10 = .ok (.ifCond .eq 30, 3) := by decide +kernel
theorem dX6_areLinked_13 : decode cX6_areLinked 13 = .ok (.aload_n 0, 1) := by decide +kernel
theorem dX6_areLinked_14 : decode cX6_areLinked 14 = .ok (.iload_n 2, 1) := by decide +kernel
theorem dX6_areLinked_15 : decode cX6_areLinked 15 = .ok (.invokevirtual 46, 3) := by decide +kernel
theorem dX6_areLinked_18 : decode cX6_areLinked 18 = .ok (.ifCond .eq 22, 3) := by decide +kernel
theorem dX6_areLinked_21 : decode cX6_areLinked 21 = .ok (.aload_n 0, 1) := by decide +kernel
theorem dX6_areLinked_22 : decode cX6_areLinked 22 = .ok (.iload_n 1, 1) := by decide +kernel
theorem dX6_areLinked_23 : decode cX6_areLinked 23 = .ok (.iload_n 2, 1) := by decide +kernel
theorem dX6_areLinked_24 : decode cX6_areLinked 24 = .ok (.invokevirtual 50, 3) := by decide +kernel
theorem dX6_areLinked_27 : decode cX6_areLinked 27 = .ok (.aload_n 0, 1) := by decide +kernel
theorem dX6_areLinked_28 : decode cX6_areLinked 28 = .ok (.getfield 7, 3) := by decide +kernel
theorem dX6_areLinked_31 : decode cX6_areLinked 31 = .ok (.iconst 1, 1) := by decide +kernel
theorem dX6_areLinked_32 : decode cX6_areLinked 32 = .ok (.iaload, 1) := by decide +kernel
theorem dX6_areLinked_33 : decode cX6_areLinked 33 = .ok (.if_icmp .gt 7, 3) := by decide +kernel
theorem dX6_areLinked_36 : decode cX6_areLinked 36 = .ok (.iconst 1, 1) := by decide +kernel
theorem dX6_areLinked_37 : decode cX6_areLinked 37 = .ok (.goto 4, 3) := by decide +kernel
theorem dX6_areLinked_40 : decode cX6_areLinked 40 = .ok (.iconst 0, 1) := by decide +kernel
theorem dX6_areLinked_41 : decode cX6_areLinked 41 = .ok (.ireturn, 1) := by decide +kernel
set_option maxRecDepth 20000 in
theorem ggX6_areThin_X6_areLinked : GoodIn wsX6_areThin wsX6_areLinked := goodIn_r _ [6, 1, 7, 8, 9, 5, 10, 11, 12, 13, 14, 15, 16, 17, 18, 19, 20, 21, 22, 23, 24, 25, 26, 27, 28, 29, 30, 31, 32, 33, 34, 35, 36, 37, 38, 39, 40, 41, 42, 43] (by decide +kernel) (by decide +kernel)
set_option maxRecDepth 20000 in
theorem gX6_areThin_X6_areLinked : GoodIn wsX6_areThin (wsV RX6 54 RX6 yX6_areLinked wsX6_areLinked) := goodIn_app (goodIn_of _ (by decide +kernel)) ggX6_areThin_X6_areLinked
set_option maxRecDepth 20000 in
theorem ggX6_areThin_X6_farOf : GoodIn wsX6_areThin wsX6_farOf := goodIn_r _ [17, 1, 18, 19, 20, 21, 22, 23, 24, 25, 26, 27, 28, 29, 30, 31, 32, 33, 34, 35, 36, 37, 38, 39, 40, 41, 42, 43] (by decide +kernel) (by decide +kernel)
set_option maxRecDepth 20000 in
theorem gX6_areThin_X6_farOf : GoodIn wsX6_areThin (wsV RX6 50 RX6 yX6_farOf wsX6_farOf) := goodIn_app (goodIn_of _ (by decide +kernel)) ggX6_areThin_X6_farOf
set_option maxRecDepth 20000 in
theorem ggX6_areThin_X6_isAwake : GoodIn wsX6_areThin wsX6_isAwake := goodIn_r _ [10, 1, 11, 12, 5, 13, 18, 19, 20, 21, 22, 23, 24, 25, 26, 27, 28, 29, 30, 31, 32, 33, 34, 35, 36, 37, 38, 39, 40, 41, 42, 43] (by decide +kernel) (by decide +kernel)
set_option maxRecDepth 20000 in
theorem gX6_areThin_X6_isAwake : GoodIn wsX6_areThin (wsV RX6 46 RX6 yX6_isAwake wsX6_isAwake) := goodIn_app (goodIn_of _ (by decide +kernel)) ggX6_areThin_X6_isAwake
theorem dX6_areThin_0 : decode cX6_areThin 0 = .ok (.aload_n 0, 1) := by decide +kernel
theorem dX6_areThin_1 : decode cX6_areThin 1 = .ok (.iload_n 1, 1) := by decide +kernel
theorem dX6_areThin_2 : decode cX6_areThin 2 = .ok (.iload_n 2, 1) := by decide +kernel
theorem dX6_areThin_3 : decode cX6_areThin 3 = .ok (.invokevirtual 54, 3) := by decide +kernel
theorem dX6_areThin_6 : decode cX6_areThin 6 = .ok (.istore_n 3, 1) := by decide +kernel
theorem dX6_areThin_7 : decode cX6_areThin 7 = .ok (.aload_n 0, 1) := by decide +kernel
theorem dX6_areThin_8 : decode cX6_areThin 8 = .ok (.iload_n 1, 1) := by decide +kernel
theorem dX6_areThin_9 : decode cX6_areThin 9 = .ok (.iload_n 2, 1) := by decide +kernel
theorem dX6_areThin_10 : decode cX6_areThin 10 = .ok (.invokevirtual 50, 3) := by decide +kernel
theorem dX6_areThin_13 : decode cX6_areThin 13 = .ok (.istore 4, 2) := by decide +kernel
theorem dX6_areThin_15 : decode cX6_areThin 15 = .ok (.iconst 0, 1) := by decide +kernel
theorem dX6_areThin_16 : decode cX6_areThin 16 = .ok (.istore 5, 2) := by decide +kernel
theorem dX6_areThin_18 : decode cX6_areThin 18 = .ok (.iload 5, 2) := by decide +kernel
theorem dX6_areThin_20 : decode cX6_areThin 20 = .ok (.aload_n 0, 1) := by decide +kernel
theorem dX6_areThin_21 : decode cX6_areThin 21 = .ok (.getfield 7, 3) := by decide +kernel
theorem dX6_areThin_24 : decode cX6_areThin 24 = .ok (.iconst 0, 1) := by decide +kernel
theorem dX6_areThin_25 : decode cX6_areThin 25 = .ok (.iaload, 1) := by decide +kernel
theorem dX6_areThin_26 : decode cX6_areThin 26 = .ok (.if_icmp .ge 99, 3) := by decide +kernel
theorem dX6_areThin_29 : decode cX6_areThin 29 = .ok (.iload_n 3, 1) := by decide +kernel
theorem dX6_areThin_30 : decode cX6_areThin 30 = .ok (.ifCond .eq 95, 3) := by decide +kernel
theorem dX6_areThin_33 : decode cX6_areThin 33 = .ok (.iload 5, 2) := by decide +kernel
theorem dX6_areThin_35 : decode cX6_areThin 35 = .ok (.iload_n 1, 1) := by decide +kernel
theorem dX6_areThin_36 : decode cX6_areThin 36 = .ok (.if_icmp .eq 83, 3) := by decide +kernel
theorem dX6_areThin_39 : decode cX6_areThin 39 = .ok (.iload 5, 2) := by decide +kernel
theorem dX6_areThin_41 : decode cX6_areThin 41 = .ok (.iload_n 2, 1) := by decide +kernel
theorem dX6_areThin_42 : decode cX6_areThin 42 = .ok (.if_icmp .eq 77, 3) := by decide +kernel
theorem dX6_areThin_45 : decode cX6_areThin 45 = .ok (.aload_n 0, 1) := by decide +kernel
theorem dX6_areThin_46 : decode cX6_areThin 46 = .ok (.iload 5, 2) := by decide +kernel
theorem dX6_areThin_48 : decode cX6_areThin 48 = .ok (.invokevirtual 46, 3) := by decide +kernel
theorem dX6_areThin_51 : decode cX6_areThin 51 = .ok (.ifCond .eq 68, 3) := by decide +kernel
theorem dX6_areThin_54 : decode cX6_areThin 54 = .ok (.aload_n 0, 1) := by decide +kernel
theorem dX6_areThin_55 : decode cX6_areThin 55 = .ok (.iload_n 1, 1) := by decide +kernel
theorem dX6_areThin_56 : decode cX6_areThin 56 = .ok (.iload 5, 2) := by decide +kernel
theorem dX6_areThin_58 : decode cX6_areThin 58 = .ok (.invokevirtual 50, 3) := by decide +kernel
theorem dX6_areThin_61 : decode cX6_areThin 61 = .ok (.istore 6, 2) := by decide +kernel
theorem dX6_areThin_63 : decode cX6_areThin 63 = .ok (.aload_n 0, 1) := by decide +kernel
theorem dX6_areThin_64 : decode cX6_areThin 64 = .ok (.iload 5, 2) := by decide +kernel
theorem dX6_areThin_66 : decode cX6_areThin 66 = .ok (.iload_n 2, 1) := by decide +kernel
theorem dX6_areThin_67 : decode cX6_areThin 67 = .ok (.invokevirtual 50, 3) := by decide +kernel
theorem dX6_areThin_70 : decode cX6_areThin 70 = .ok (.istore 7, 2) := by decide +kernel
theorem dX6_areThin_72 : decode cX6_areThin 72 = .ok (.aload_n 0, 1) := by decide +kernel
theorem dX6_areThin_73 : decode cX6_areThin 73 = .ok (.getfield 7, 3) := by decide +kernel
theorem dX6_areThin_76 : decode cX6_areThin 76 = .ok (.iconst 2, 1) := by decide +kernel
theorem dX6_areThin_77 : decode cX6_areThin 77 = .ok (.iaload, 1) := by decide +kernel
theorem dX6_areThin_78 : decode cX6_areThin 78 = .ok (.ifCond .ne 21, 3) := by decide +kernel
theorem dX6_areThin_81 : decode cX6_areThin 81 = .ok (.iload 6, 2) := by decide +kernel
theorem dX6_areThin_83 : decode cX6_areThin 83 = .ok (.iload 7, 2) := by decide +kernel
theorem dX6_areThin_85 : decode cX6_areThin 85 = .ok (.iadd, 1) := by decide +kernel
theorem dX6_areThin_86 : decode cX6_areThin 86 = .ok (.iload 4, 2) := by decide +kernel
theorem dX6_areThin_88 : decode cX6_areThin 88 = .ok (.if_icmp .le 7, 3) := by decide +kernel
theorem dX6_areThin_91 : decode cX6_areThin 91 = .ok (.iconst 1, 1) := by decide +kernel
theorem dX6_areThin_92 : decode cX6_areThin 92 = .ok (.goto 26, 3) := by decide +kernel
theorem dX6_areThin_95 : decode cX6_areThin 95 = .ok (.iconst 0, 1) := by decide +kernel
theorem dX6_areThin_96 : decode cX6_areThin 96 = .ok (.goto 22, 3) := by decide +kernel
theorem dX6_areThin_99 : decode cX6_areThin 99 = .ok (.iload 6, 2) := by decide +kernel
theorem dX6_areThin_101 : decode cX6_areThin 101 = .ok (.iload 4, 2) := by decide +kernel
theorem dX6_areThin_103 : decode cX6_areThin 103 = .ok (.if_icmp .ge 10, 3) := by decide +kernel
theorem dX6_areThin_106 : decode cX6_areThin 106 = .ok (.iload 7, 2) := by decide +kernel
theorem dX6_areThin_108 : decode cX6_areThin 108 = .ok (.iload 4, 2) := by decide +kernel
theorem dX6_areThin_110 : decode cX6_areThin 110 = .ok (.if_icmp .lt 7, 3) := by decide +kernel
theorem dX6_areThin_113 : decode cX6_areThin 113 = .ok (.iconst 1, 1) := by decide +kernel
theorem dX6_areThin_114 : decode cX6_areThin 114 = .ok (.goto 4, 3) := by decide +kernel
theorem dX6_areThin_117 : decode cX6_areThin 117 = .ok (.iconst 0, 1) := by decide +kernel
theorem dX6_areThin_118 : decode cX6_areThin 118 = .ok (.istore_n 3, 1) := by decide +kernel
theorem dX6_areThin_119 : decode cX6_areThin 119 = .ok (.iinc 5 1, 3) := by decide +kernel
theorem dX6_areThin_122 : decode cX6_areThin 122 = .ok (.goto (-104), 3) := by decide +kernel
theorem dX6_areThin_125 : decode cX6_areThin 125 = .ok (.iload_n 3, 1) := by decide +kernel
theorem dX6_areThin_126 : decode cX6_areThin 126 = .ok (.ireturn, 1) := by decide +kernel
set_option maxRecDepth 20000 in
theorem ggX6_setOf_X6_areThin : GoodIn wsX6_setOf wsX6_areThin := goodIn_r _ [6, 1, 7, 8, 9, 5, 10, 11, 12, 13, 14, 15, 16, 17, 18, 19, 20, 21, 22, 23, 24, 25, 26, 27, 28, 29, 30, 31, 32, 33, 34, 35, 36, 37, 38, 39, 40, 41, 42, 43, 44, 45, 46, 47] (by decide +kernel) (by decide +kernel)
set_option maxRecDepth 20000 in
theorem gX6_setOf_X6_areThin : GoodIn wsX6_setOf (wsV RX6 57 RX6 yX6_areThin wsX6_areThin) := goodIn_app (goodIn_of _ (by decide +kernel)) ggX6_setOf_X6_areThin
set_option maxRecDepth 20000 in
theorem ggX6_setOf_X6_areLinked : GoodIn wsX6_setOf wsX6_areLinked := goodIn_r _ [10, 1, 11, 12, 13, 5, 14, 15, 16, 17, 18, 19, 20, 21, 22, 23, 24, 25, 26, 27, 28, 29, 30, 31, 32, 33, 34, 35, 36, 37, 38, 39, 40, 41, 42, 43, 44, 45, 46, 47] (by decide +kernel) (by decide +kernel)
set_option maxRecDepth 20000 in
theorem gX6_setOf_X6_areLinked : GoodIn wsX6_setOf (wsV RX6 54 RX6 yX6_areLinked wsX6_areLinked) := goodIn_app (goodIn_of _ (by decide +kernel)) ggX6_setOf_X6_areLinked
theorem dX6_setOf_0 : decode cX6_setOf 0 = .ok (.iconst 0, 1) := by decide +kernel
theorem dX6_setOf_1 : decode cX6_setOf 1 = .ok (.istore_n 3, 1) := by decide +kernel
theorem dX6_setOf_2 : decode cX6_setOf 2 = .ok (.iconst 0, 1) := by decide +kernel
theorem dX6_setOf_3 : decode cX6_setOf 3 = .ok (.istore 4, 2) := by decide +kernel
theorem dX6_setOf_5 : decode cX6_setOf 5 = .ok (.iload 4, 2) := by decide +kernel
theorem dX6_setOf_7 : decode cX6_setOf 7 = .ok (.aload_n 0, 1) := by decide +kernel
theorem dX6_setOf_8 : decode cX6_setOf 8 = .ok (.getfield 7, 3) := by decide +kernel
theorem dX6_setOf_11 : decode cX6_setOf 11 = .ok (.iconst 0, 1) := by decide +kernel
theorem dX6_setOf_12 : decode cX6_setOf 12 = .ok (.iaload, 1) := by decide +kernel
theorem dX6_setOf_13 : decode cX6_setOf 13 = .ok (.if_icmp .ge 47, 3) := by decide +kernel
theorem dX6_setOf_16 : decode cX6_setOf 16 = .ok (.iload_n 3, 1) := by decide +kernel
theorem dX6_setOf_17 : decode cX6_setOf 17 = .ok (.iload_n 2, 1) := by decide +kernel
theorem dX6_setOf_18 : decode cX6_setOf 18 = .ok (.ifCond .eq 16, 3) := by decide +kernel
theorem dX6_setOf_21 : decode cX6_setOf 21 = .ok (.aload_n 0, 1) := by decide +kernel
theorem dX6_setOf_22 : decode cX6_setOf 22 = .ok (.iload_n 1, 1) := by decide +kernel
theorem dX6_setOf_23 : decode cX6_setOf 23 = .ok (.iload 4, 2) := by decide +kernel
theorem dX6_setOf_25 : decode cX6_setOf 25 = .ok (.invokevirtual 57, 3) := by decide +kernel
theorem dX6_setOf_28 : decode cX6_setOf 28 = .ok (.ifCond .eq 23, 3) := by decide +kernel
theorem dX6_setOf_31 : decode cX6_setOf 31 = .ok (.goto 13, 3) := by decide +kernel
theorem dX6_setOf_34 : decode cX6_setOf 34 = .ok (.aload_n 0, 1) := by decide +kernel
theorem dX6_setOf_35 : decode cX6_setOf 35 = .ok (.iload_n 1, 1) := by decide +kernel
theorem dX6_setOf_36 : decode cX6_setOf 36 = .ok (.iload 4, 2) := by decide +kernel
theorem dX6_setOf_38 : decode cX6_setOf 38 = .ok (.invokevirtual 54, 3) := by decide +kernel
theorem dX6_setOf_41 : decode cX6_setOf 41 = .ok (.ifCond .eq 10, 3) := by decide +kernel
theorem dX6_setOf_44 : decode cX6_setOf 44 = .ok (.iconst 1, 1) := by decide +kernel
theorem dX6_setOf_45 : decode cX6_setOf 45 = .ok (.iload 4, 2) := by decide +kernel
theorem dX6_setOf_47 : decode cX6_setOf 47 = .ok (.ishl, 1) := by decide +kernel
theorem dX6_setOf_48 : decode cX6_setOf 48 = .ok (.goto 4, 3) := by decide +kernel
theorem dX6_setOf_51 : decode cX6_setOf 51 = .ok (.iconst 0, 1) := by decide +kernel
theorem dX6_setOf_52 : decode cX6_setOf 52 = .ok (.ior, 1) := by decide +kernel
theorem dX6_setOf_53 : decode cX6_setOf 53 = .ok (.istore_n 3, 1) := by decide +kernel
theorem dX6_setOf_54 : decode cX6_setOf 54 = .ok (.iinc 4 1, 3) := by decide +kernel
theorem dX6_setOf_57 : decode cX6_setOf 57 = .ok (.goto (-52), 3) := by decide +kernel
theorem dX6_setOf_60 : decode cX6_setOf 60 = .ok (.iload_n 3, 1) := by decide +kernel
theorem dX6_setOf_61 : decode cX6_setOf 61 = .ok (.ireturn, 1) := by decide +kernel
theorem dX6_side_0 : decode cX6_side 0 = .ok (.aload_n 0, 1) := by decide +kernel
theorem dX6_side_1 : decode cX6_side 1 = .ok (.getfield 7, 3) := by decide +kernel
theorem dX6_side_4 : decode cX6_side 4 = .ok (.iconst 4, 1) := by decide +kernel
theorem dX6_side_5 : decode cX6_side 5 = .ok (.iload_n 2, 1) := by decide +kernel
theorem dX6_side_6 : decode cX6_side 6 = .ok (.iadd, 1) := by decide +kernel
theorem dX6_side_7 : decode cX6_side 7 = .ok (.iaload, 1) := by decide +kernel
theorem dX6_side_8 : decode cX6_side 8 = .ok (.aload_n 0, 1) := by decide +kernel
theorem dX6_side_9 : decode cX6_side 9 = .ok (.getfield 7, 3) := by decide +kernel
theorem dX6_side_12 : decode cX6_side 12 = .ok (.iconst 4, 1) := by decide +kernel
theorem dX6_side_13 : decode cX6_side 13 = .ok (.iload_n 1, 1) := by decide +kernel
theorem dX6_side_14 : decode cX6_side 14 = .ok (.iadd, 1) := by decide +kernel
theorem dX6_side_15 : decode cX6_side 15 = .ok (.iaload, 1) := by decide +kernel
theorem dX6_side_16 : decode cX6_side 16 = .ok (.isub, 1) := by decide +kernel
theorem dX6_side_17 : decode cX6_side 17 = .ok (.aload_n 0, 1) := by decide +kernel
theorem dX6_side_18 : decode cX6_side 18 = .ok (.getfield 7, 3) := by decide +kernel
theorem dX6_side_21 : decode cX6_side 21 = .ok (.bipush 14, 2) := by decide +kernel
theorem dX6_side_23 : decode cX6_side 23 = .ok (.iload_n 3, 1) := by decide +kernel
theorem dX6_side_24 : decode cX6_side 24 = .ok (.iadd, 1) := by decide +kernel
theorem dX6_side_25 : decode cX6_side 25 = .ok (.iaload, 1) := by decide +kernel
theorem dX6_side_26 : decode cX6_side 26 = .ok (.aload_n 0, 1) := by decide +kernel
theorem dX6_side_27 : decode cX6_side 27 = .ok (.getfield 7, 3) := by decide +kernel
theorem dX6_side_30 : decode cX6_side 30 = .ok (.bipush 14, 2) := by decide +kernel
theorem dX6_side_32 : decode cX6_side 32 = .ok (.iload_n 1, 1) := by decide +kernel
theorem dX6_side_33 : decode cX6_side 33 = .ok (.iadd, 1) := by decide +kernel
theorem dX6_side_34 : decode cX6_side 34 = .ok (.iaload, 1) := by decide +kernel
theorem dX6_side_35 : decode cX6_side 35 = .ok (.isub, 1) := by decide +kernel
theorem dX6_side_36 : decode cX6_side 36 = .ok (.imul, 1) := by decide +kernel
theorem dX6_side_37 : decode cX6_side 37 = .ok (.aload_n 0, 1) := by decide +kernel
theorem dX6_side_38 : decode cX6_side 38 = .ok (.getfield 7, 3) := by decide +kernel
theorem dX6_side_41 : decode cX6_side 41 = .ok (.bipush 14, 2) := by decide +kernel
theorem dX6_side_43 : decode cX6_side 43 = .ok (.iload_n 2, 1) := by decide +kernel
theorem dX6_side_44 : decode cX6_side 44 = .ok (.iadd, 1) := by decide +kernel
theorem dX6_side_45 : decode cX6_side 45 = .ok (.iaload, 1) := by decide +kernel
theorem dX6_side_46 : decode cX6_side 46 = .ok (.aload_n 0, 1) := by decide +kernel
theorem dX6_side_47 : decode cX6_side 47 = .ok (.getfield 7, 3) := by decide +kernel
theorem dX6_side_50 : decode cX6_side 50 = .ok (.bipush 14, 2) := by decide +kernel
theorem dX6_side_52 : decode cX6_side 52 = .ok (.iload_n 1, 1) := by decide +kernel
theorem dX6_side_53 : decode cX6_side 53 = .ok (.iadd, 1) := by decide +kernel
theorem dX6_side_54 : decode cX6_side 54 = .ok (.iaload, 1) := by decide +kernel
theorem dX6_side_55 : decode cX6_side 55 = .ok (.isub, 1) := by decide +kernel
theorem dX6_side_56 : decode cX6_side 56 = .ok (.aload_n 0, 1) := by decide +kernel
theorem dX6_side_57 : decode cX6_side 57 = .ok (.getfield 7, 3) := by decide +kernel
theorem dX6_side_60 : decode cX6_side 60 = .ok (.iconst 4, 1) := by decide +kernel
theorem dX6_side_61 : decode cX6_side 61 = .ok (.iload_n 3, 1) := by decide +kernel
theorem dX6_side_62 : decode cX6_side 62 = .ok (.iadd, 1) := by decide +kernel
theorem dX6_side_63 : decode cX6_side 63 = .ok (.iaload, 1) := by decide +kernel
theorem dX6_side_64 : decode cX6_side 64 = .ok (.aload_n 0, 1) := by decide +kernel
theorem dX6_side_65 : decode cX6_side 65 = .ok (.getfield 7, 3) := by decide +kernel
theorem dX6_side_68 : decode cX6_side 68 = .ok (.iconst 4, 1) := by decide +kernel
theorem dX6_side_69 : decode cX6_side 69 = .ok (.iload_n 1, 1) := by decide +kernel
theorem dX6_side_70 : decode cX6_side 70 = .ok (.iadd, 1) := by decide +kernel
theorem dX6_side_71 : decode cX6_side 71 = .ok (.iaload, 1) := by decide +kernel
theorem dX6_side_72 : decode cX6_side 72 = .ok (.isub, 1) := by decide +kernel
theorem dX6_side_73 : decode cX6_side 73 = .ok (.imul, 1) := by decide +kernel
theorem dX6_side_74 : decode cX6_side 74 = .ok (.isub, 1) := by decide +kernel
theorem dX6_side_75 : decode cX6_side 75 = .ok (.ireturn, 1) := by decide +kernel
set_option maxRecDepth 20000 in
theorem ggX6_part_X6_side : GoodIn wsX6_part wsX6_side := goodIn_r _ [6, 1, 7, 8, 9, 10, 11, 12, 13, 14, 15, 16, 17, 18, 19, 20, 21, 22, 23, 24, 25, 26, 27, 28, 29, 30, 31, 32] (by decide +kernel) (by decide +kernel)
set_option maxRecDepth 20000 in
theorem gX6_part_X6_side : GoodIn wsX6_part (wsV RX6 60 RX6 yX6_side wsX6_side) := goodIn_app (goodIn_of _ (by decide +kernel)) ggX6_part_X6_side
theorem dX6_part_0 : decode cX6_part 0 = .ok (.aload_n 0, 1) := by decide +kernel
theorem dX6_part_1 : decode cX6_part 1 = .ok (.iload_n 1, 1) := by decide +kernel
theorem dX6_part_2 : decode cX6_part 2 = .ok (.iload_n 2, 1) := by decide +kernel
theorem dX6_part_3 : decode cX6_part 3 = .ok (.iload_n 3, 1) := by decide +kernel
theorem dX6_part_4 : decode cX6_part 4 = .ok (.invokevirtual 60, 3) := by decide +kernel
theorem dX6_part_7 : decode cX6_part 7 = .ok (.istore 4, 2) := by decide +kernel
theorem dX6_part_9 : decode cX6_part 9 = .ok (.aload_n 0, 1) := by decide +kernel
theorem dX6_part_10 : decode cX6_part 10 = .ok (.getfield 7, 3) := by decide +kernel
theorem dX6_part_13 : decode cX6_part 13 = .ok (.iconst 4, 1) := by decide +kernel
theorem dX6_part_14 : decode cX6_part 14 = .ok (.iload_n 2, 1) := by decide +kernel
theorem dX6_part_15 : decode cX6_part 15 = .ok (.iadd, 1) := by decide +kernel
theorem dX6_part_16 : decode cX6_part 16 = .ok (.iaload, 1) := by decide +kernel
theorem dX6_part_17 : decode cX6_part 17 = .ok (.aload_n 0, 1) := by decide +kernel
theorem dX6_part_18 : decode cX6_part 18 = .ok (.getfield 7, 3) := by decide +kernel
theorem dX6_part_21 : decode cX6_part 21 = .ok (.iconst 4, 1) := by decide +kernel
theorem dX6_part_22 : decode cX6_part 22 = .ok (.iload_n 1, 1) := by decide +kernel
theorem dX6_part_23 : decode cX6_part 23 = .ok (.iadd, 1) := by decide +kernel
theorem dX6_part_24 : decode cX6_part 24 = .ok (.iaload, 1) := by decide +kernel
theorem dX6_part_25 : decode cX6_part 25 = .ok (.isub, 1) := by decide +kernel
theorem dX6_part_26 : decode cX6_part 26 = .ok (.aload_n 0, 1) := by decide +kernel
