theorem dX6_part_27 : decode cX6_part 27 = .ok (.getfield 7, 3) := by decide +kernel
theorem dX6_part_30 : decode cX6_part 30 = .ok (.iconst 4, 1) := by decide +kernel
theorem dX6_part_31 : decode cX6_part 31 = .ok (.iload_n 3, 1) := by decide +kernel
theorem dX6_part_32 : decode cX6_part 32 = .ok (.iadd, 1) := by decide +kernel
theorem dX6_part_33 : decode cX6_part 33 = .ok (.iaload, 1) := by decide +kernel
theorem dX6_part_34 : decode cX6_part 34 = .ok (.aload_n 0, 1) := by decide +kernel
theorem dX6_part_35 : decode cX6_part 35 = .ok (.getfield 7, 3) := by decide +kernel
theorem dX6_part_38 : decode cX6_part 38 = .ok (.iconst 4, 1) := by decide +kernel
theorem dX6_part_39 : decode cX6_part 39 = .ok (.iload_n 1, 1) := by decide +kernel
theorem dX6_part_40 : decode cX6_part 40 = .ok (.iadd, 1) := by decide +kernel
theorem dX6_part_41 : decode cX6_part 41 = .ok (.iaload, 1) := by decide +kernel
theorem dX6_part_42 : decode cX6_part 42 = .ok (.isub, 1) := by decide +kernel
theorem dX6_part_43 : decode cX6_part 43 = .ok (.imul, 1) := by decide +kernel
theorem dX6_part_44 : decode cX6_part 44 = .ok (.aload_n 0, 1) := by decide +kernel
theorem dX6_part_45 : decode cX6_part 45 = .ok (.getfield 7, 3) := by decide +kernel
theorem dX6_part_48 : decode cX6_part 48 = .ok (.bipush 14, 2) := by decide +kernel
theorem dX6_part_50 : decode cX6_part 50 = .ok (.iload_n 2, 1) := by decide +kernel
theorem dX6_part_51 : decode cX6_part 51 = .ok (.iadd, 1) := by decide +kernel
theorem dX6_part_52 : decode cX6_part 52 = .ok (.iaload, 1) := by decide +kernel
theorem dX6_part_53 : decode cX6_part 53 = .ok (.aload_n 0, 1) := by decide +kernel
theorem dX6_part_54 : decode cX6_part 54 = .ok (.getfield 7, 3) := by decide +kernel
theorem dX6_part_57 : decode cX6_part 57 = .ok (.bipush 14, 2) := by decide +kernel
theorem dX6_part_59 : decode cX6_part 59 = .ok (.iload_n 1, 1) := by decide +kernel
theorem dX6_part_60 : decode cX6_part 60 = .ok (.iadd, 1) := by decide +kernel
theorem dX6_part_61 : decode cX6_part 61 = .ok (.iaload, 1) := by decide +kernel
theorem dX6_part_62 : decode cX6_part 62 = .ok (.isub, 1) := by decide +kernel
theorem dX6_part_63 : decode cX6_part 63 = .ok (.aload_n 0, 1) := by decide +kernel
theorem dX6_part_64 : decode cX6_part 64 = .ok (.getfield 7, 3) := by decide +kernel
theorem dX6_part_67 : decode cX6_part 67 = .ok (.bipush 14, 2) := by decide +kernel
theorem dX6_part_69 : decode cX6_part 69 = .ok (.iload_n 3, 1) := by decide +kernel
theorem dX6_part_70 : decode cX6_part 70 = .ok (.iadd, 1) := by decide +kernel
theorem dX6_part_71 : decode cX6_part 71 = .ok (.iaload, 1) := by decide +kernel
theorem dX6_part_72 : decode cX6_part 72 = .ok (.aload_n 0, 1) := by decide +kernel
theorem dX6_part_73 : decode cX6_part 73 = .ok (.getfield 7, 3) := by decide +kernel
theorem dX6_part_76 : decode cX6_part 76 = .ok (.bipush 14, 2) := by decide +kernel
theorem dX6_part_78 : decode cX6_part 78 = .ok (.iload_n 1, 1) := by decide +kernel
theorem dX6_part_79 : decode cX6_part 79 = .ok (.iadd, 1) := by decide +kernel
theorem dX6_part_80 : decode cX6_part 80 = .ok (.iaload, 1) := by decide +kernel
theorem dX6_part_81 : decode cX6_part 81 = .ok (.isub, 1) := by decide +kernel
theorem dX6_part_82 : decode cX6_part 82 = .ok (.imul, 1) := by decide +kernel
theorem dX6_part_83 : decode cX6_part 83 = .ok (.iadd, 1) := by decide +kernel
theorem dX6_part_84 : decode cX6_part 84 = .ok (.istore 5, 2) := by decide +kernel
theorem dX6_part_86 : decode cX6_part 86 = .ok (.iload 4, 2) := by decide +kernel
theorem dX6_part_88 : decode cX6_part 88 = .ok (.ifCond .le 7, 3) := by decide +kernel
theorem dX6_part_91 : decode cX6_part 91 = .ok (.iconst 1, 1) := by decide +kernel
theorem dX6_part_92 : decode cX6_part 92 = .ok (.goto 22, 3) := by decide +kernel
theorem dX6_part_95 : decode cX6_part 95 = .ok (.iload 4, 2) := by decide +kernel
theorem dX6_part_97 : decode cX6_part 97 = .ok (.ifCond .ge 7, 3) := by decide +kernel
theorem dX6_part_100 : decode cX6_part 100 = .ok (.iconst 3, 1) := by decide +kernel
theorem dX6_part_101 : decode cX6_part 101 = .ok (.goto 13, 3) := by decide +kernel
theorem dX6_part_104 : decode cX6_part 104 = .ok (.iload 5, 2) := by decide +kernel
theorem dX6_part_106 : decode cX6_part 106 = .ok (.ifCond .le 7, 3) := by decide +kernel
theorem dX6_part_109 : decode cX6_part 109 = .ok (.iconst 0, 1) := by decide +kernel
theorem dX6_part_110 : decode cX6_part 110 = .ok (.goto 4, 3) := by decide +kernel
theorem dX6_part_113 : decode cX6_part 113 = .ok (.iconst 2, 1) := by decide +kernel
theorem dX6_part_114 : decode cX6_part 114 = .ok (.ireturn, 1) := by decide +kernel
set_option maxRecDepth 20000 in
theorem ggX6_isAhead_X6_part : GoodIn wsX6_isAhead wsX6_part := goodIn_r _ [5, 6, 7, 8, 9, 4, 10, 15, 16, 17, 18, 19, 20, 21, 22, 23, 24, 25, 26, 27, 28, 29, 30, 31, 32, 33, 34, 35, 36, 37, 38, 39, 40] (by decide +kernel) (by decide +kernel)
set_option maxRecDepth 20000 in
theorem gX6_isAhead_X6_part : GoodIn wsX6_isAhead (wsV RX6 64 RX6 yX6_part wsX6_part) := goodIn_app (goodIn_of _ (by decide +kernel)) ggX6_isAhead_X6_part
set_option maxRecDepth 20000 in
theorem ggX6_isAhead_X6_side : GoodIn wsX6_isAhead wsX6_side := goodIn_r _ [10, 6, 15, 16, 17, 18, 19, 20, 21, 22, 23, 24, 25, 26, 27, 28, 29, 30, 31, 32, 33, 34, 35, 36, 37, 38, 39, 40] (by decide +kernel) (by decide +kernel)
set_option maxRecDepth 20000 in
theorem gX6_isAhead_X6_side : GoodIn wsX6_isAhead (wsV RX6 60 RX6 yX6_side wsX6_side) := goodIn_app (goodIn_of _ (by decide +kernel)) ggX6_isAhead_X6_side
set_option maxRecDepth 20000 in
theorem ggX6_isAhead_X6_farOf : GoodIn wsX6_isAhead wsX6_farOf := goodIn_r _ [14, 6, 15, 16, 17, 18, 19, 20, 21, 22, 23, 24, 25, 26, 27, 28, 29, 30, 31, 32, 33, 34, 35, 36, 37, 38, 39, 40] (by decide +kernel) (by decide +kernel)
set_option maxRecDepth 20000 in
theorem gX6_isAhead_X6_farOf : GoodIn wsX6_isAhead (wsV RX6 50 RX6 yX6_farOf wsX6_farOf) := goodIn_app (goodIn_of _ (by decide +kernel)) ggX6_isAhead_X6_farOf
theorem dX6_isAhead_0 : decode cX6_isAhead 0 = .ok (.aload_n 0, 1) := by decide +kernel
theorem dX6_isAhead_1 : decode cX6_isAhead 1 = .ok (.iload_n 1, 1) := by decide +kernel
theorem dX6_isAhead_2 : decode cX6_isAhead 2 = .ok (.iload_n 2, 1) := by decide +kernel
theorem dX6_isAhead_3 : decode cX6_isAhead 3 = .ok (.iload_n 3, 1) := by decide +kernel
theorem dX6_isAhead_4 : decode cX6_isAhead 4 = .ok (.invokevirtual 64, 3) := by decide +kernel
theorem dX6_isAhead_7 : decode cX6_isAhead 7 = .ok (.istore 5, 2) := by decide +kernel
theorem dX6_isAhead_9 : decode cX6_isAhead 9 = .ok (.aload_n 0, 1) := by decide +kernel
theorem dX6_isAhead_10 : decode cX6_isAhead 10 = .ok (.iload_n 1, 1) := by decide +kernel
theorem dX6_isAhead_11 : decode cX6_isAhead 11 = .ok (.iload_n 2, 1) := by decide +kernel
theorem dX6_isAhead_12 : decode cX6_isAhead 12 = .ok (.iload 4, 2) := by decide +kernel
theorem dX6_isAhead_14 : decode cX6_isAhead 14 = .ok (.invokevirtual 64, 3) := by decide +kernel
theorem dX6_isAhead_17 : decode cX6_isAhead 17 = .ok (.istore 6, 2) := by decide +kernel
theorem dX6_isAhead_19 : decode cX6_isAhead 19 = .ok (.iload 5, 2) := by decide +kernel
theorem dX6_isAhead_21 : decode cX6_isAhead 21 = .ok (.iload 6, 2) := by decide +kernel
theorem dX6_isAhead_23 : decode cX6_isAhead 23 = .ok (.if_icmp .eq 16, 3) := by decide +kernel
theorem dX6_isAhead_26 : decode cX6_isAhead 26 = .ok (.iload 5, 2) := by decide +kernel
theorem dX6_isAhead_28 : decode cX6_isAhead 28 = .ok (.iload 6, 2) := by decide +kernel
theorem dX6_isAhead_30 : decode cX6_isAhead 30 = .ok (.if_icmp .ge 7, 3) := by decide +kernel
theorem dX6_isAhead_33 : decode cX6_isAhead 33 = .ok (.iconst 1, 1) := by decide +kernel
theorem dX6_isAhead_34 : decode cX6_isAhead 34 = .ok (.goto 4, 3) := by decide +kernel
theorem dX6_isAhead_37 : decode cX6_isAhead 37 = .ok (.iconst 0, 1) := by decide +kernel
theorem dX6_isAhead_38 : decode cX6_isAhead 38 = .ok (.ireturn, 1) := by decide +kernel
theorem dX6_isAhead_39 : decode cX6_isAhead 39 = .ok (.aload_n 0, 1) := by decide +kernel
theorem dX6_isAhead_40 : decode cX6_isAhead 40 = .ok (.iload_n 1, 1) := by decide +kernel
theorem dX6_isAhead_41 : decode cX6_isAhead 41 = .ok (.iload_n 3, 1) := by decide +kernel
theorem dX6_isAhead_42 : decode cX6_isAhead 42 = .ok (.iload 4, 2) := by decide +kernel
theorem dX6_isAhead_44 : decode cX6_isAhead 44 = .ok (.invokevirtual 60, 3) := by decide +kernel
theorem dX6_isAhead_47 : decode cX6_isAhead 47 = .ok (.istore 7, 2) := by decide +kernel
theorem dX6_isAhead_49 : decode cX6_isAhead 49 = .ok (.iload 7, 2) := by decide +kernel
theorem dX6_isAhead_51 : decode cX6_isAhead 51 = .ok (.ifCond .eq 16, 3) := by decide +kernel
theorem dX6_isAhead_54 : decode cX6_isAhead 54 = .ok (.iload 7, 2) := by decide +kernel
theorem dX6_isAhead_56 : decode cX6_isAhead 56 = .ok (.ifCond .le 7, 3) := by decide +kernel
theorem dX6_isAhead_59 : decode cX6_isAhead 59 = .ok (.iconst 1, 1) := by decide +kernel
theorem dX6_isAhead_60 : decode cX6_isAhead 60 = .ok (.goto 28, 3) := by decide +kernel
theorem dX6_isAhead_63 : decode cX6_isAhead 63 = .ok (.iconst 0, 1) := by decide +kernel
theorem dX6_isAhead_64 : decode cX6_isAhead 64 = .ok (.goto 24, 3) := by decide +kernel
theorem dX6_isAhead_67 : decode cX6_isAhead 67 = .ok (.aload_n 0, 1) := by decide +kernel
theorem dX6_isAhead_68 : decode cX6_isAhead 68 = .ok (.iload_n 1, 1) := by decide +kernel
theorem dX6_isAhead_69 : decode cX6_isAhead 69 = .ok (.iload_n 3, 1) := by decide +kernel
theorem dX6_isAhead_70 : decode cX6_isAhead 70 = .ok (.invokevirtual 50, 3) := by decide +kernel
theorem dX6_isAhead_73 : decode cX6_isAhead 73 = .ok (.aload_n 0, 1) := by decide +kernel
theorem dX6_isAhead_74 : decode cX6_isAhead 74 = .ok (.iload_n 1, 1) := by decide +kernel
theorem dX6_isAhead_75 : decode cX6_isAhead 75 = .ok (.iload 4, 2) := by decide +kernel
theorem dX6_isAhead_77 : decode cX6_isAhead 77 = .ok (.invokevirtual 50, 3) := by decide +kernel
theorem dX6_isAhead_80 : decode cX6_isAhead 80 = .ok (.if_icmp .ge 7, 3) := by decide +kernel
theorem dX6_isAhead_83 : decode cX6_isAhead 83 = .ok (.iconst 1, 1) := by decide +kernel
theorem dX6_isAhead_84 : decode cX6_isAhead 84 = .ok (.goto 4, 3) := by decide +kernel
theorem dX6_isAhead_87 : decode cX6_isAhead 87 = .ok (.iconst 0, 1) := by decide +kernel
theorem dX6_isAhead_88 : decode cX6_isAhead 88 = .ok (.ireturn, 1) := by decide +kernel
set_option maxRecDepth 20000 in
theorem ggX6_firstOf_X6_areThin : GoodIn wsX6_firstOf wsX6_areThin := goodIn_r _ [6, 1, 7, 8, 9, 5, 10, 11, 12, 13, 14, 15, 16, 17, 18, 19, 20, 21, 34, 35, 36, 37, 38, 39, 40, 41, 42, 43, 44, 45, 46, 47, 48, 49, 50, 51, 52, 53, 54, 55, 56, 57, 58, 59] (by decide +kernel) (by decide +kernel)
set_option maxRecDepth 20000 in
theorem gX6_firstOf_X6_areThin : GoodIn wsX6_firstOf (wsV RX6 57 RX6 yX6_areThin wsX6_areThin) := goodIn_app (goodIn_of _ (by decide +kernel)) ggX6_firstOf_X6_areThin
set_option maxRecDepth 20000 in
theorem ggX6_firstOf_X6_isAhead : GoodIn wsX6_firstOf wsX6_isAhead := goodIn_r _ [25, 26, 27, 28, 5, 29, 1, 30, 31, 32, 33, 18, 19, 20, 21, 34, 35, 36, 37, 38, 39, 40, 41, 42, 43, 44, 45, 46, 47, 48, 49, 50, 51, 52, 53, 54, 55, 56, 57, 58, 59] (by decide +kernel) (by decide +kernel)
set_option maxRecDepth 20000 in
theorem gX6_firstOf_X6_isAhead : GoodIn wsX6_firstOf (wsV RX6 67 RX6 yX6_isAhead wsX6_isAhead) := goodIn_app (goodIn_of _ (by decide +kernel)) ggX6_firstOf_X6_isAhead
theorem dX6_firstOf_0 : decode cX6_firstOf 0 = .ok (.iconst (-1), 1) := by decide +kernel
theorem dX6_firstOf_1 : decode cX6_firstOf 1 = .ok (.istore 4, 2) := by decide +kernel
theorem dX6_firstOf_3 : decode cX6_firstOf 3 = .ok (.iconst 0, 1) := by decide +kernel
theorem dX6_firstOf_4 : decode cX6_firstOf 4 = .ok (.istore 5, 2) := by decide +kernel
theorem dX6_firstOf_6 : decode cX6_firstOf 6 = .ok (.iload 5, 2) := by decide +kernel
theorem dX6_firstOf_8 : decode cX6_firstOf 8 = .ok (.aload_n 0, 1) := by decide +kernel
theorem dX6_firstOf_9 : decode cX6_firstOf 9 = .ok (.getfield 7, 3) := by decide +kernel
theorem dX6_firstOf_12 : decode cX6_firstOf 12 = .ok (.iconst 0, 1) := by decide +kernel
theorem dX6_firstOf_13 : decode cX6_firstOf 13 = .ok (.iaload, 1) := by decide +kernel
theorem dX6_firstOf_14 : decode cX6_firstOf 14 = .ok (.if_icmp .ge 48, 3) := by decide +kernel
theorem dX6_firstOf_17 : decode cX6_firstOf 17 = .ok (.iload 5, 2) := by decide +kernel
theorem dX6_firstOf_19 : decode cX6_firstOf 19 = .ok (.iload_n 3, 1) := by decide +kernel
theorem dX6_firstOf_20 : decode cX6_firstOf 20 = .ok (.if_icmp .eq 36, 3) := by decide +kernel
theorem dX6_firstOf_23 : decode cX6_firstOf 23 = .ok (.aload_n 0, 1) := by decide +kernel
theorem dX6_firstOf_24 : decode cX6_firstOf 24 = .ok (.iload_n 1, 1) := by decide +kernel
theorem dX6_firstOf_25 : decode cX6_firstOf 25 = .ok (.iload 5, 2) := by decide +kernel
theorem dX6_firstOf_27 : decode cX6_firstOf 27 = .ok (.invokevirtual 57, 3) := by decide +kernel
theorem dX6_firstOf_30 : decode cX6_firstOf 30 = .ok (.ifCond .eq 26, 3) := by decide +kernel
theorem dX6_firstOf_33 : decode cX6_firstOf 33 = .ok (.iload 4, 2) := by decide +kernel
theorem dX6_firstOf_35 : decode cX6_firstOf 35 = .ok (.iconst (-1), 1) := by decide +kernel
theorem dX6_firstOf_36 : decode cX6_firstOf 36 = .ok (.if_icmp .eq 16, 3) := by decide +kernel
theorem dX6_firstOf_39 : decode cX6_firstOf 39 = .ok (.aload_n 0, 1) := by decide +kernel
theorem dX6_firstOf_40 : decode cX6_firstOf 40 = .ok (.iload_n 1, 1) := by decide +kernel
theorem dX6_firstOf_41 : decode cX6_firstOf 41 = .ok (.iload_n 2, 1) := by decide +kernel
theorem dX6_firstOf_42 : decode cX6_firstOf 42 = .ok (.iload 5, 2) := by decide +kernel
theorem dX6_firstOf_44 : decode cX6_firstOf 44 = .ok (.iload 4, 2) := by decide +kernel
theorem dX6_firstOf_46 : decode cX6_firstOf 46 = .ok (.invokevirtual 67, 3) := by decide +kernel
theorem dX6_firstOf_49 : decode cX6_firstOf 49 = .ok (.ifCond .eq 7, 3) := by decide +kernel
theorem dX6_firstOf_52 : decode cX6_firstOf 52 = .ok (.iload 5, 2) := by decide +kernel
theorem dX6_firstOf_54 : decode cX6_firstOf 54 = .ok (.istore 4, 2) := by decide +kernel
theorem dX6_firstOf_56 : decode cX6_firstOf 56 = .ok (.iinc 5 1, 3) := by decide +kernel
theorem dX6_firstOf_59 : decode cX6_firstOf 59 = .ok (.goto (-53), 3) := by decide +kernel
theorem dX6_firstOf_62 : decode cX6_firstOf 62 = .ok (.iload 4, 2) := by decide +kernel
theorem dX6_firstOf_64 : decode cX6_firstOf 64 = .ok (.ireturn, 1) := by decide +kernel
set_option maxRecDepth 20000 in
theorem ggX6_turned_X6_firstOf : GoodIn wsX6_turned wsX6_firstOf := goodIn_r _ [5, 6, 7, 8, 9, 4, 10, 11, 12, 13, 14, 15, 16, 17, 18, 19, 20, 21, 22, 23, 24, 25, 26, 27, 28, 29, 30, 31, 32, 33, 34, 35, 36, 37, 38, 39, 40, 41, 42, 43, 44, 45, 46, 47, 48, 49, 50, 51, 52, 53, 54, 55, 56, 57, 58, 59, 60, 61, 62, 63] (by decide +kernel) (by decide +kernel)
set_option maxRecDepth 20000 in
theorem gX6_turned_X6_firstOf : GoodIn wsX6_turned (wsV RX6 71 RX6 yX6_firstOf wsX6_firstOf) := goodIn_app (goodIn_of _ (by decide +kernel)) ggX6_turned_X6_firstOf
set_option maxRecDepth 20000 in
theorem ggX6_turned_X6_areThin : GoodIn wsX6_turned wsX6_areThin := goodIn_r _ [10, 6, 11, 12, 13, 4, 14, 15, 16, 17, 18, 19, 20, 21, 22, 23, 24, 25, 38, 39, 40, 41, 42, 43, 44, 45, 46, 47, 48, 49, 50, 51, 52, 53, 54, 55, 56, 57, 58, 59, 60, 61, 62, 63] (by decide +kernel) (by decide +kernel)
set_option maxRecDepth 20000 in
theorem gX6_turned_X6_areThin : GoodIn wsX6_turned (wsV RX6 57 RX6 yX6_areThin wsX6_areThin) := goodIn_app (goodIn_of _ (by decide +kernel)) ggX6_turned_X6_areThin
theorem dX6_turned_0 : decode cX6_turned 0 = .ok (.aload_n 0, 1) := by decide +kernel
theorem dX6_turned_1 : decode cX6_turned 1 = .ok (.iload_n 1, 1) := by decide +kernel
theorem dX6_turned_2 : decode cX6_turned 2 = .ok (.iload_n 2, 1) := by decide +kernel
theorem dX6_turned_3 : decode cX6_turned 3 = .ok (.iload_n 2, 1) := by decide +kernel
theorem dX6_turned_4 : decode cX6_turned 4 = .ok (.invokevirtual 71, 3) := by decide +kernel
theorem dX6_turned_7 : decode cX6_turned 7 = .ok (.istore_n 3, 1) := by decide +kernel
theorem dX6_turned_8 : decode cX6_turned 8 = .ok (.iload_n 3, 1) := by decide +kernel
theorem dX6_turned_9 : decode cX6_turned 9 = .ok (.iconst (-1), 1) := by decide +kernel
theorem dX6_turned_10 : decode cX6_turned 10 = .ok (.if_icmp .eq 7, 3) := by decide +kernel
theorem dX6_turned_13 : decode cX6_turned 13 = .ok (.iload_n 3, 1) := by decide +kernel
theorem dX6_turned_14 : decode cX6_turned 14 = .ok (.goto 17, 3) := by decide +kernel
theorem dX6_turned_17 : decode cX6_turned 17 = .ok (.aload_n 0, 1) := by decide +kernel
theorem dX6_turned_18 : decode cX6_turned 18 = .ok (.iload_n 1, 1) := by decide +kernel
theorem dX6_turned_19 : decode cX6_turned 19 = .ok (.iload_n 2, 1) := by decide +kernel
theorem dX6_turned_20 : decode cX6_turned 20 = .ok (.invokevirtual 57, 3) := by decide +kernel
theorem dX6_turned_23 : decode cX6_turned 23 = .ok (.ifCond .eq 7, 3) := by decide +kernel
theorem dX6_turned_26 : decode cX6_turned 26 = .ok (.iload_n 2, 1) := by decide +kernel
theorem dX6_turned_27 : decode cX6_turned 27 = .ok (.goto 4, 3) := by decide +kernel
theorem dX6_turned_30 : decode cX6_turned 30 = .ok (.iconst (-1), 1) := by decide +kernel
theorem dX6_turned_31 : decode cX6_turned 31 = .ok (.ireturn, 1) := by decide +kernel
set_option maxRecDepth 20000 in
theorem ggX6_faceOf_X6_turned : GoodIn wsX6_faceOf wsX6_turned := goodIn_r _ [5, 6, 7, 8, 4, 9, 10, 11, 12, 13, 14, 15, 16, 17, 18, 19, 20, 21, 22, 23, 24, 25, 26, 27, 28, 29, 30, 31, 32, 33, 34, 35, 36, 37, 38, 39, 40, 41, 42, 43, 44, 45, 46, 47, 48, 49, 50, 51, 52, 53, 54, 55, 56, 57, 58, 59, 60, 61, 62, 63, 64, 65, 66, 67] (by decide +kernel) (by decide +kernel)
set_option maxRecDepth 20000 in
theorem gX6_faceOf_X6_turned : GoodIn wsX6_faceOf (wsV RX6 74 RX6 yX6_turned wsX6_turned) := goodIn_app (goodIn_of _ (by decide +kernel)) ggX6_faceOf_X6_turned
theorem dX6_faceOf_0 : decode cX6_faceOf 0 = .ok (.iload_n 1, 1) := by decide +kernel
theorem dX6_faceOf_1 : decode cX6_faceOf 1 = .ok (.istore_n 3, 1) := by decide +kernel
theorem dX6_faceOf_2 : decode cX6_faceOf 2 = .ok (.iload_n 2, 1) := by decide +kernel
theorem dX6_faceOf_3 : decode cX6_faceOf 3 = .ok (.istore 4, 2) := by decide +kernel
theorem dX6_faceOf_5 : decode cX6_faceOf 5 = .ok (.iconst 0, 1) := by decide +kernel
theorem dX6_faceOf_6 : decode cX6_faceOf 6 = .ok (.istore 5, 2) := by decide +kernel
theorem dX6_faceOf_8 : decode cX6_faceOf 8 = .ok (.aload_n 0, 1) := by decide +kernel
theorem dX6_faceOf_9 : decode cX6_faceOf 9 = .ok (.iload 4, 2) := by decide +kernel
theorem dX6_faceOf_11 : decode cX6_faceOf 11 = .ok (.iload_n 3, 1) := by decide +kernel
theorem dX6_faceOf_12 : decode cX6_faceOf 12 = .ok (.invokevirtual 74, 3) := by decide +kernel
theorem dX6_faceOf_15 : decode cX6_faceOf 15 = .ok (.istore 6, 2) := by decide +kernel
theorem dX6_faceOf_17 : decode cX6_faceOf 17 = .ok (.iload 4, 2) := by decide +kernel
theorem dX6_faceOf_19 : decode cX6_faceOf 19 = .ok (.istore_n 3, 1) := by decide +kernel
theorem dX6_faceOf_20 : decode cX6_faceOf 20 = .ok (.iload 6, 2) := by decide +kernel
theorem dX6_faceOf_22 : decode cX6_faceOf 22 = .ok (.istore 4, 2) := by decide +kernel
theorem dX6_faceOf_24 : decode cX6_faceOf 24 = .ok (.iinc 5 1, 3) := by decide +kernel
theorem dX6_faceOf_27 : decode cX6_faceOf 27 = .ok (.iload_n 3, 1) := by decide +kernel
theorem dX6_faceOf_28 : decode cX6_faceOf 28 = .ok (.iload_n 1, 1) := by decide +kernel
theorem dX6_faceOf_29 : decode cX6_faceOf 29 = .ok (.if_icmp .ne (-21), 3) := by decide +kernel
theorem dX6_faceOf_32 : decode cX6_faceOf 32 = .ok (.iload 4, 2) := by decide +kernel
theorem dX6_faceOf_34 : decode cX6_faceOf 34 = .ok (.iload_n 2, 1) := by decide +kernel
theorem dX6_faceOf_35 : decode cX6_faceOf 35 = .ok (.if_icmp .ne (-27), 3) := by decide +kernel
theorem dX6_faceOf_38 : decode cX6_faceOf 38 = .ok (.iload 5, 2) := by decide +kernel
theorem dX6_faceOf_40 : decode cX6_faceOf 40 = .ok (.ireturn, 1) := by decide +kernel
set_option maxRecDepth 20000 in
theorem ggX6_laysFaces_X6_areThin : GoodIn wsX6_laysFaces wsX6_areThin := goodIn_r _ [8, 3, 9, 10, 11, 7, 12, 13, 14, 15, 16, 17, 18, 19, 20, 21, 22, 23, 44, 45, 46, 47, 48, 49, 50, 51, 52, 53, 54, 55, 56, 57, 58, 59, 60, 61, 62, 63, 64, 65, 66, 67, 68, 69] (by decide +kernel) (by decide +kernel)
set_option maxRecDepth 20000 in
theorem gX6_laysFaces_X6_areThin : GoodIn wsX6_laysFaces (wsV RX6 57 RX6 yX6_areThin wsX6_areThin) := goodIn_app (goodIn_of _ (by decide +kernel)) ggX6_laysFaces_X6_areThin
set_option maxRecDepth 20000 in
theorem ggX6_laysFaces_X6_turned : GoodIn wsX6_laysFaces wsX6_turned := goodIn_r _ [27, 28, 29, 30, 7, 31, 3, 4, 5, 6, 8, 9, 10, 11, 12, 13, 14, 15, 16, 17, 18, 19, 20, 21, 22, 23, 32, 33, 34, 35, 36, 37, 38, 39, 40, 41, 42, 43, 44, 45, 46, 47, 48, 49, 50, 51, 52, 53, 54, 55, 56, 57, 58, 59, 60, 61, 62, 63, 64, 65, 66, 67, 68, 69] (by decide +kernel) (by decide +kernel)
set_option maxRecDepth 20000 in
theorem gX6_laysFaces_X6_turned : GoodIn wsX6_laysFaces (wsV RX6 74 RX6 yX6_turned wsX6_turned) := goodIn_app (goodIn_of _ (by decide +kernel)) ggX6_laysFaces_X6_turned
theorem dX6_laysFaces_0 : decode cX6_laysFaces 0 = .ok (.aload_n 0, 1) := by decide +kernel
theorem dX6_laysFaces_1 : decode cX6_laysFaces 1 = .ok (.iconst 0, 1) := by decide +kernel
theorem dX6_laysFaces_2 : decode cX6_laysFaces 2 = .ok (.putfield 77, 3) := by decide +kernel
theorem dX6_laysFaces_5 : decode cX6_laysFaces 5 = .ok (.aload_n 0, 1) := by decide +kernel
theorem dX6_laysFaces_6 : decode cX6_laysFaces 6 = .ok (.iconst 0, 1) := by decide +kernel
theorem dX6_laysFaces_7 : decode cX6_laysFaces 7 = .ok (.putfield 81, 3) := by decide +kernel
theorem dX6_laysFaces_10 : decode cX6_laysFaces 10 = .ok (.iconst 0, 1) := by decide +kernel
theorem dX6_laysFaces_11 : decode cX6_laysFaces 11 = .ok (.istore_n 1, 1) := by decide +kernel
theorem dX6_laysFaces_12 : decode cX6_laysFaces 12 = .ok (.iload_n 1, 1) := by decide +kernel
theorem dX6_laysFaces_13 : decode cX6_laysFaces 13 = .ok (.aload_n 0, 1) := by decide +kernel
theorem dX6_laysFaces_14 : decode cX6_laysFaces 14 = .ok (.getfield 7, 3) := by decide +kernel
theorem dX6_laysFaces_17 : decode cX6_laysFaces 17 = .ok (.iconst 0, 1) := by decide +kernel
theorem dX6_laysFaces_18 : decode cX6_laysFaces 18 = .ok (.iaload, 1) := by decide +kernel
theorem dX6_laysFaces_19 : decode cX6_laysFaces 19 = .ok (.aload_n 0, 1) := by decide +kernel
theorem dX6_laysFaces_20 : decode cX6_laysFaces 20 = .ok (.getfield 7, 3) := by decide +kernel
theorem dX6_laysFaces_23 : decode cX6_laysFaces 23 = .ok (.iconst 0, 1) := by decide +kernel
theorem dX6_laysFaces_24 : decode cX6_laysFaces 24 = .ok (.iaload, 1) := by decide +kernel
theorem dX6_laysFaces_25 : decode cX6_laysFaces 25 = .ok (.imul, 1) := by decide +kernel
theorem dX6_laysFaces_26 : decode cX6_laysFaces 26 = .ok (.if_icmp .ge 150, 3) := by decide +kernel
theorem dX6_laysFaces_29 : decode cX6_laysFaces 29 = .ok (.iload_n 1, 1) := by decide +kernel
theorem dX6_laysFaces_30 : decode cX6_laysFaces 30 = .ok (.aload_n 0, 1) := by decide +kernel
theorem dX6_laysFaces_31 : decode cX6_laysFaces 31 = .ok (.getfield 7, 3) := by decide +kernel
theorem dX6_laysFaces_34 : decode cX6_laysFaces 34 = .ok (.iconst 0, 1) := by decide +kernel
theorem dX6_laysFaces_35 : decode cX6_laysFaces 35 = .ok (.iaload, 1) := by decide +kernel
theorem dX6_laysFaces_36 : decode cX6_laysFaces 36 = .ok (.idiv, 1) := by decide +kernel
theorem dX6_laysFaces_37 : decode cX6_laysFaces 37 = .ok (.istore_n 2, 1) := by decide +kernel
theorem dX6_laysFaces_38 : decode cX6_laysFaces 38 = .ok (.iload_n 1, 1) := by decide +kernel
theorem dX6_laysFaces_39 : decode cX6_laysFaces 39 = .ok (.aload_n 0, 1) := by decide +kernel
theorem dX6_laysFaces_40 : decode cX6_laysFaces 40 = .ok (.getfield 7, 3) := by decide +kernel
theorem dX6_laysFaces_43 : decode cX6_laysFaces 43 = .ok (.iconst 0, 1) := by decide +kernel
theorem dX6_laysFaces_44 : decode cX6_laysFaces 44 = .ok (.iaload, 1) := by decide +kernel
theorem dX6_laysFaces_45 : decode cX6_laysFaces 45 = .ok (.irem, 1) := by decide +kernel
theorem dX6_laysFaces_46 : decode cX6_laysFaces 46 = .ok (.istore_n 3, 1) := by decide +kernel
theorem dX6_laysFaces_47 : decode cX6_laysFaces 47 = .ok (.aload_n 0, 1) := by decide +kernel
theorem dX6_laysFaces_48 : decode cX6_laysFaces 48 = .ok (.iload_n 2, 1) := by decide +kernel
theorem dX6_laysFaces_49 : decode cX6_laysFaces 49 = .ok (.iload_n 3, 1) := by decide +kernel
theorem dX6_laysFaces_50 : decode cX6_laysFaces 50 = .ok (.invokevirtual 57, 3) := by decide +kernel
theorem dX6_laysFaces_53 : decode cX6_laysFaces 53 = .ok (.ifCond .eq 117, 3) := by decide +kernel
theorem dX6_laysFaces_56 : decode cX6_laysFaces 56 = .ok (.iload_n 2, 1) := by decide +kernel
theorem dX6_laysFaces_57 : decode cX6_laysFaces 57 = .ok (.istore 4, 2) := by decide +kernel
theorem dX6_laysFaces_59 : decode cX6_laysFaces 59 = .ok (.iload_n 3, 1) := by decide +kernel
theorem dX6_laysFaces_60 : decode cX6_laysFaces 60 = .ok (.istore 5, 2) := by decide +kernel
theorem dX6_laysFaces_62 : decode cX6_laysFaces 62 = .ok (.iconst 1, 1) := by decide +kernel
theorem dX6_laysFaces_63 : decode cX6_laysFaces 63 = .ok (.istore 6, 2) := by decide +kernel
theorem dX6_laysFaces_65 : decode cX6_laysFaces 65 = .ok (.iconst 0, 1) := by decide +kernel
theorem dX6_laysFaces_66 : decode cX6_laysFaces 66 = .ok (.istore 7, 2) := by decide +kernel
theorem dX6_laysFaces_68 : decode cX6_laysFaces 68 = .ok (.aload_n 0, 1) := by decide +kernel
theorem dX6_laysFaces_69 : decode cX6_laysFaces 69 = .ok (.iload 5, 2) := by decide +kernel
theorem dX6_laysFaces_71 : decode cX6_laysFaces 71 = .ok (.iload 4, 2) := by decide +kernel
theorem dX6_laysFaces_73 : decode cX6_laysFaces 73 = .ok (.invokevirtual 74, 3) := by decide +kernel
theorem dX6_laysFaces_76 : decode cX6_laysFaces 76 = .ok (.istore 8, 2) := by decide +kernel
theorem dX6_laysFaces_78 : decode cX6_laysFaces 78 = .ok (.iload 5, 2) := by decide +kernel
theorem dX6_laysFaces_80 : decode cX6_laysFaces 80 = .ok (.istore 4, 2) := by decide +kernel
theorem dX6_laysFaces_82 : decode cX6_laysFaces 82 = .ok (.iload 8, 2) := by decide +kernel
theorem dX6_laysFaces_84 : decode cX6_laysFaces 84 = .ok (.istore 5, 2) := by decide +kernel
theorem dX6_laysFaces_86 : decode cX6_laysFaces 86 = .ok (.iinc 7 1, 3) := by decide +kernel
theorem dX6_laysFaces_89 : decode cX6_laysFaces 89 = .ok (.iload 6, 2) := by decide +kernel
theorem dX6_laysFaces_91 : decode cX6_laysFaces 91 = .ok (.ifCond .eq 23, 3) := by decide +kernel
theorem dX6_laysFaces_94 : decode cX6_laysFaces 94 = .ok (.iload 4, 2) := by decide +kernel
theorem dX6_laysFaces_96 : decode cX6_laysFaces 96 = .ok (.aload_n 0, 1) := by decide +kernel
theorem dX6_laysFaces_97 : decode cX6_laysFaces 97 = .ok (.getfield 7, 3) := by decide +kernel
theorem dX6_laysFaces_100 : decode cX6_laysFaces 100 = .ok (.iconst 0, 1) := by decide +kernel
theorem dX6_laysFaces_101 : decode cX6_laysFaces 101 = .ok (.iaload, 1) := by decide +kernel
theorem dX6_laysFaces_102 : decode cX6_laysFaces 102 = .ok (.imul, 1) := by decide +kernel
theorem dX6_laysFaces_103 : decode cX6_laysFaces 103 = .ok (.iload 5, 2) := by decide +kernel
theorem dX6_laysFaces_105 : decode cX6_laysFaces 105 = .ok (.iadd, 1) := by decide +kernel
theorem dX6_laysFaces_106 : decode cX6_laysFaces 106 = .ok (.iload_n 1, 1) := by decide +kernel
theorem dX6_laysFaces_107 : decode cX6_laysFaces 107 = .ok (.if_icmp .lt 7, 3) := by decide +kernel
theorem dX6_laysFaces_110 : decode cX6_laysFaces 110 = .ok (.iconst 1, 1) := by decide +kernel
theorem dX6_laysFaces_111 : decode cX6_laysFaces 111 = .ok (.goto 4, 3) := by decide +kernel
theorem dX6_laysFaces_114 : decode cX6_laysFaces 114 = .ok (.iconst 0, 1) := by decide +kernel
theorem dX6_laysFaces_115 : decode cX6_laysFaces 115 = .ok (.istore 6, 2) := by decide +kernel
theorem dX6_laysFaces_117 : decode cX6_laysFaces 117 = .ok (.iload 4, 2) := by decide +kernel
theorem dX6_laysFaces_119 : decode cX6_laysFaces 119 = .ok (.iload_n 2, 1) := by decide +kernel
theorem dX6_laysFaces_120 : decode cX6_laysFaces 120 = .ok (.if_icmp .ne (-52), 3) := by decide +kernel
theorem dX6_laysFaces_123 : decode cX6_laysFaces 123 = .ok (.iload 5, 2) := by decide +kernel
theorem dX6_laysFaces_125 : decode cX6_laysFaces 125 = .ok (.iload_n 3, 1) := by decide +kernel
theorem dX6_laysFaces_126 : decode cX6_laysFaces 126 = .ok (.if_icmp .ne (-58), 3) := by decide +kernel
theorem dX6_laysFaces_129 : decode cX6_laysFaces 129 = .ok (.aload_n 0, 1) := by decide +kernel
theorem dX6_laysFaces_130 : decode cX6_laysFaces 130 = .ok (.dup, 1) := by decide +kernel
theorem dX6_laysFaces_131 : decode cX6_laysFaces 131 = .ok (.getfield 77, 3) := by decide +kernel
theorem dX6_laysFaces_134 : decode cX6_laysFaces 134 = .ok (.iload 6, 2) := by decide +kernel
theorem dX6_laysFaces_136 : decode cX6_laysFaces 136 = .ok (.ifCond .eq 7, 3) := by decide +kernel
theorem dX6_laysFaces_139 : decode cX6_laysFaces 139 = .ok (.iconst 1, 1) := by decide +kernel
theorem dX6_laysFaces_140 : decode cX6_laysFaces 140 = .ok (.goto 4, 3) := by decide +kernel
theorem dX6_laysFaces_143 : decode cX6_laysFaces 143 = .ok (.iconst 0, 1) := by decide +kernel
theorem dX6_laysFaces_144 : decode cX6_laysFaces 144 = .ok (.iadd, 1) := by decide +kernel
theorem dX6_laysFaces_145 : decode cX6_laysFaces 145 = .ok (.putfield 77, 3) := by decide +kernel
theorem dX6_laysFaces_148 : decode cX6_laysFaces 148 = .ok (.aload_n 0, 1) := by decide +kernel
theorem dX6_laysFaces_149 : decode cX6_laysFaces 149 = .ok (.iload 7, 2) := by decide +kernel
theorem dX6_laysFaces_151 : decode cX6_laysFaces 151 = .ok (.aload_n 0, 1) := by decide +kernel
theorem dX6_laysFaces_152 : decode cX6_laysFaces 152 = .ok (.getfield 81, 3) := by decide +kernel
theorem dX6_laysFaces_155 : decode cX6_laysFaces 155 = .ok (.if_icmp .le 8, 3) := by decide +kernel
theorem dX6_laysFaces_158 : decode cX6_laysFaces 158 = .ok (.iload 7, 2) := by decide +kernel
theorem dX6_laysFaces_160 : decode cX6_laysFaces 160 = .ok (.goto 7, 3) := by decide +kernel
theorem dX6_laysFaces_163 : decode cX6_laysFaces 163 = .ok (.aload_n 0, 1) := by decide +kernel
theorem dX6_laysFaces_164 : decode cX6_laysFaces 164 = .ok (.getfield 81, 3) := by decide +kernel
theorem dX6_laysFaces_167 : decode cX6_laysFaces 167 = .ok (.putfield 81, 3) := by decide +kernel
theorem dX6_laysFaces_170 : decode cX6_laysFaces 170 = .ok (.iinc 1 1, 3) := by decide +kernel
theorem dX6_laysFaces_173 : decode cX6_laysFaces 173 = .ok (.goto (-161), 3) := by decide +kernel
theorem dX6_laysFaces_176 : decode cX6_laysFaces 176 = .ok (.return_, 1) := by decide +kernel
set_option maxRecDepth 20000 in
theorem ggX6_partsOf_X6_has : GoodIn wsX6_partsOf wsX6_has := goodIn_r _ [5] (by decide +kernel) (by decide +kernel)
set_option maxRecDepth 20000 in
theorem gX6_partsOf_X6_has : GoodIn wsX6_partsOf (va_wsS RX6 42 yX6_has wsX6_has) := goodIn_app (goodIn_of _ (by decide +kernel)) ggX6_partsOf_X6_has
set_option maxRecDepth 20000 in
theorem ggX6_partsOf_X6_setOf : GoodIn wsX6_partsOf wsX6_setOf := goodIn_r _ [9, 1, 10, 11, 12, 4, 13, 14, 15, 16, 17, 18, 19, 20, 21, 2, 3, 5, 22, 23, 24, 25, 26, 27, 28, 29, 30, 31, 32, 33, 34, 35, 36, 37, 38, 39, 40, 41, 42, 43, 44, 45, 46, 47, 48, 49, 50, 51] (by decide +kernel) (by decide +kernel)
set_option maxRecDepth 20000 in
theorem gX6_partsOf_X6_setOf : GoodIn wsX6_partsOf (wsV RX6 84 RX6 yX6_setOf wsX6_setOf) := goodIn_app (goodIn_of _ (by decide +kernel)) ggX6_partsOf_X6_setOf
theorem dX6_partsOf_0 : decode cX6_partsOf 0 = .ok (.aload_n 0, 1) := by decide +kernel
theorem dX6_partsOf_1 : decode cX6_partsOf 1 = .ok (.getfield 7, 3) := by decide +kernel
theorem dX6_partsOf_4 : decode cX6_partsOf 4 = .ok (.iconst 3, 1) := by decide +kernel
theorem dX6_partsOf_5 : decode cX6_partsOf 5 = .ok (.iaload, 1) := by decide +kernel
theorem dX6_partsOf_6 : decode cX6_partsOf 6 = .ok (.istore_n 1, 1) := by decide +kernel
theorem dX6_partsOf_7 : decode cX6_partsOf 7 = .ok (.iconst 0, 1) := by decide +kernel
theorem dX6_partsOf_8 : decode cX6_partsOf 8 = .ok (.istore_n 2, 1) := by decide +kernel
theorem dX6_partsOf_9 : decode cX6_partsOf 9 = .ok (.iload_n 1, 1) := by decide +kernel
theorem dX6_partsOf_10 : decode cX6_partsOf 10 = .ok (.ifCond .eq 79, 3) := by decide +kernel
theorem dX6_partsOf_13 : decode cX6_partsOf 13 = .ok (.iload_n 1, 1) := by decide +kernel
theorem dX6_partsOf_14 : decode cX6_partsOf 14 = .ok (.iload_n 1, 1) := by decide +kernel
theorem dX6_partsOf_15 : decode cX6_partsOf 15 = .ok (.ineg, 1) := by decide +kernel
theorem dX6_partsOf_16 : decode cX6_partsOf 16 = .ok (.iand, 1) := by decide +kernel
theorem dX6_partsOf_17 : decode cX6_partsOf 17 = .ok (.istore_n 3, 1) := by decide +kernel
theorem dX6_partsOf_18 : decode cX6_partsOf 18 = .ok (.iconst 0, 1) := by decide +kernel
theorem dX6_partsOf_19 : decode cX6_partsOf 19 = .ok (.istore 4, 2) := by decide +kernel
theorem dX6_partsOf_21 : decode cX6_partsOf 21 = .ok (.iload 4, 2) := by decide +kernel
theorem dX6_partsOf_23 : decode cX6_partsOf 23 = .ok (.iload_n 3, 1) := by decide +kernel
theorem dX6_partsOf_24 : decode cX6_partsOf 24 = .ok (.if_icmp .eq 53, 3) := by decide +kernel
theorem dX6_partsOf_27 : decode cX6_partsOf 27 = .ok (.iload_n 3, 1) := by decide +kernel
theorem dX6_partsOf_28 : decode cX6_partsOf 28 = .ok (.istore 4, 2) := by decide +kernel
theorem dX6_partsOf_30 : decode cX6_partsOf 30 = .ok (.iconst 0, 1) := by decide +kernel
theorem dX6_partsOf_31 : decode cX6_partsOf 31 = .ok (.istore 5, 2) := by decide +kernel
theorem dX6_partsOf_33 : decode cX6_partsOf 33 = .ok (.iload 5, 2) := by decide +kernel
theorem dX6_partsOf_35 : decode cX6_partsOf 35 = .ok (.aload_n 0, 1) := by decide +kernel
theorem dX6_partsOf_36 : decode cX6_partsOf 36 = .ok (.getfield 7, 3) := by decide +kernel
theorem dX6_partsOf_39 : decode cX6_partsOf 39 = .ok (.iconst 0, 1) := by decide +kernel
theorem dX6_partsOf_40 : decode cX6_partsOf 40 = .ok (.iaload, 1) := by decide +kernel
theorem dX6_partsOf_41 : decode cX6_partsOf 41 = .ok (.if_icmp .ge 33, 3) := by decide +kernel
theorem dX6_partsOf_44 : decode cX6_partsOf 44 = .ok (.iload_n 3, 1) := by decide +kernel
theorem dX6_partsOf_45 : decode cX6_partsOf 45 = .ok (.iload 4, 2) := by decide +kernel
theorem dX6_partsOf_47 : decode cX6_partsOf 47 = .ok (.iload 5, 2) := by decide +kernel
theorem dX6_partsOf_49 : decode cX6_partsOf 49 = .ok (.invokestatic 42, 3) := by decide +kernel
theorem dX6_partsOf_52 : decode cX6_partsOf 52 = .ok (.ifCond .eq 13, 3) := by decide +kernel
theorem dX6_partsOf_55 : decode cX6_partsOf 55 = .ok (.aload_n 0, 1) := by decide +kernel
theorem dX6_partsOf_56 : decode cX6_partsOf 56 = .ok (.iload 5, 2) := by decide +kernel
theorem dX6_partsOf_58 : decode cX6_partsOf 58 = .ok (.iconst 0, 1) := by decide +kernel
theorem dX6_partsOf_59 : decode cX6_partsOf 59 = .ok (.invokevirtual 84, 3) := by decide +kernel
theorem dX6_partsOf_62 : decode cX6_partsOf 62 = .ok (.goto 4, 3) := by decide +kernel
theorem dX6_partsOf_65 : decode cX6_partsOf 65 = .ok (.iconst 0, 1) := by decide +kernel
theorem dX6_partsOf_66 : decode cX6_partsOf 66 = .ok (.ior, 1) := by decide +kernel
theorem dX6_partsOf_67 : decode cX6_partsOf 67 = .ok (.istore_n 3, 1) := by decide +kernel
theorem dX6_partsOf_68 : decode cX6_partsOf 68 = .ok (.iinc 5 1, 3) := by decide +kernel
theorem dX6_partsOf_71 : decode cX6_partsOf 71 = .ok (.goto (-38), 3) := by decide +kernel
theorem dX6_partsOf_74 : decode cX6_partsOf 74 = .ok (.goto (-53), 3) := by decide +kernel
theorem dX6_partsOf_77 : decode cX6_partsOf 77 = .ok (.iload_n 1, 1) := by decide +kernel
theorem dX6_partsOf_78 : decode cX6_partsOf 78 = .ok (.iload_n 3, 1) := by decide +kernel
theorem dX6_partsOf_79 : decode cX6_partsOf 79 = .ok (.iconst (-1), 1) := by decide +kernel
theorem dX6_partsOf_80 : decode cX6_partsOf 80 = .ok (.ixor, 1) := by decide +kernel
theorem dX6_partsOf_81 : decode cX6_partsOf 81 = .ok (.iand, 1) := by decide +kernel
theorem dX6_partsOf_82 : decode cX6_partsOf 82 = .ok (.istore_n 1, 1) := by decide +kernel
theorem dX6_partsOf_83 : decode cX6_partsOf 83 = .ok (.iinc 2 1, 3) := by decide +kernel
theorem dX6_partsOf_86 : decode cX6_partsOf 86 = .ok (.goto (-77), 3) := by decide +kernel
theorem dX6_partsOf_89 : decode cX6_partsOf 89 = .ok (.iload_n 2, 1) := by decide +kernel
theorem dX6_partsOf_90 : decode cX6_partsOf 90 = .ok (.ireturn, 1) := by decide +kernel
set_option maxRecDepth 20000 in
theorem ggX6_isWithin_X6_side : GoodIn wsX6_isWithin wsX6_side := goodIn_r _ [6, 1, 10, 11, 12, 13, 14, 15, 16, 17, 18, 19, 20, 21, 22, 23, 24, 25, 26, 27, 28, 29, 30, 31, 32, 33, 34, 35] (by decide +kernel) (by decide +kernel)
set_option maxRecDepth 20000 in
theorem gX6_isWithin_X6_side : GoodIn wsX6_isWithin (wsV RX6 60 RX6 yX6_side wsX6_side) := goodIn_app (goodIn_of _ (by decide +kernel)) ggX6_isWithin_X6_side
set_option maxRecDepth 20000 in
theorem ggX6_isWithin_X6_in : GoodIn wsX6_isWithin wsX6_in := goodIn_r _ [9] (by decide +kernel) (by decide +kernel)
set_option maxRecDepth 20000 in
theorem gX6_isWithin_X6_in : GoodIn wsX6_isWithin (va_wsS RX6 38 yX6_in wsX6_in) := goodIn_app (goodIn_of _ (by decide +kernel)) ggX6_isWithin_X6_in
theorem dX6_isWithin_0 : decode cX6_isWithin 0 = .ok (.aload_n 0, 1) := by decide +kernel
theorem dX6_isWithin_1 : decode cX6_isWithin 1 = .ok (.getfield 7, 3) := by decide +kernel
theorem dX6_isWithin_4 : decode cX6_isWithin 4 = .ok (.iconst 4, 1) := by decide +kernel
theorem dX6_isWithin_5 : decode cX6_isWithin 5 = .ok (.iload_n 1, 1) := by decide +kernel
theorem dX6_isWithin_6 : decode cX6_isWithin 6 = .ok (.iadd, 1) := by decide +kernel
theorem dX6_isWithin_7 : decode cX6_isWithin 7 = .ok (.iaload, 1) := by decide +kernel
theorem dX6_isWithin_8 : decode cX6_isWithin 8 = .ok (.aload_n 0, 1) := by decide +kernel
theorem dX6_isWithin_9 : decode cX6_isWithin 9 = .ok (.getfield 7, 3) := by decide +kernel
theorem dX6_isWithin_12 : decode cX6_isWithin 12 = .ok (.iconst 4, 1) := by decide +kernel
theorem dX6_isWithin_13 : decode cX6_isWithin 13 = .ok (.iload_n 2, 1) := by decide +kernel
theorem dX6_isWithin_14 : decode cX6_isWithin 14 = .ok (.iadd, 1) := by decide +kernel
theorem dX6_isWithin_15 : decode cX6_isWithin 15 = .ok (.iaload, 1) := by decide +kernel
theorem dX6_isWithin_16 : decode cX6_isWithin 16 = .ok (.if_icmp .ge 14, 3) := by decide +kernel
theorem dX6_isWithin_19 : decode cX6_isWithin 19 = .ok (.aload_n 0, 1) := by decide +kernel
theorem dX6_isWithin_20 : decode cX6_isWithin 20 = .ok (.getfield 7, 3) := by decide +kernel
theorem dX6_isWithin_23 : decode cX6_isWithin 23 = .ok (.iconst 4, 1) := by decide +kernel
theorem dX6_isWithin_24 : decode cX6_isWithin 24 = .ok (.iload_n 1, 1) := by decide +kernel
theorem dX6_isWithin_25 : decode cX6_isWithin 25 = .ok (.iadd, 1) := by decide +kernel
theorem dX6_isWithin_26 : decode cX6_isWithin 26 = .ok (.iaload, 1) := by decide +kernel
theorem dX6_isWithin_27 : decode cX6_isWithin 27 = .ok (.goto 11, 3) := by decide +kernel
theorem dX6_isWithin_30 : decode cX6_isWithin 30 = .ok (.aload_n 0, 1) := by decide +kernel
theorem dX6_isWithin_31 : decode cX6_isWithin 31 = .ok (.getfield 7, 3) := by decide +kernel
theorem dX6_isWithin_34 : decode cX6_isWithin 34 = .ok (.iconst 4, 1) := by decide +kernel
theorem dX6_isWithin_35 : decode cX6_isWithin 35 = .ok (.iload_n 2, 1) := by decide +kernel
theorem dX6_isWithin_36 : decode cX6_isWithin 36 = .ok (.iadd, 1) := by decide +kernel
theorem dX6_isWithin_37 : decode cX6_isWithin 37 = .ok (.iaload, 1) := by decide +kernel
theorem dX6_isWithin_38 : decode cX6_isWithin 38 = .ok (.istore 4, 2) := by decide +kernel
theorem dX6_isWithin_40 : decode cX6_isWithin 40 = .ok (.aload_n 0, 1) := by decide +kernel
theorem dX6_isWithin_41 : decode cX6_isWithin 41 = .ok (.getfield 7, 3) := by decide +kernel
theorem dX6_isWithin_44 : decode cX6_isWithin 44 = .ok (.bipush 14, 2) := by decide +kernel
theorem dX6_isWithin_46 : decode cX6_isWithin 46 = .ok (.iload_n 1, 1) := by decide +kernel
theorem dX6_isWithin_47 : decode cX6_isWithin 47 = .ok (.iadd, 1) := by decide +kernel
theorem dX6_isWithin_48 : decode cX6_isWithin 48 = .ok (.iaload, 1) := by decide +kernel
theorem dX6_isWithin_49 : decode cX6_isWithin 49 = .ok (.aload_n 0, 1) := by decide +kernel
theorem dX6_isWithin_50 : decode cX6_isWithin 50 = .ok (.getfield 7, 3) := by decide +kernel
theorem dX6_isWithin_53 : decode cX6_isWithin 53 = .ok (.bipush 14, 2) := by decide +kernel
theorem dX6_isWithin_55 : decode cX6_isWithin 55 = .ok (.iload_n 2, 1) := by decide +kernel
theorem dX6_isWithin_56 : decode cX6_isWithin 56 = .ok (.iadd, 1) := by decide +kernel
theorem dX6_isWithin_57 : decode cX6_isWithin 57 = .ok (.iaload, 1) := by decide +kernel
theorem dX6_isWithin_58 : decode cX6_isWithin 58 = .ok (.if_icmp .ge 15, 3) := by decide +kernel
theorem dX6_isWithin_61 : decode cX6_isWithin 61 = .ok (.aload_n 0, 1) := by decide +kernel
theorem dX6_isWithin_62 : decode cX6_isWithin 62 = .ok (.getfield 7, 3) := by decide +kernel
theorem dX6_isWithin_65 : decode cX6_isWithin 65 = .ok (.bipush 14, 2) := by decide +kernel
theorem dX6_isWithin_67 : decode cX6_isWithin 67 = .ok (.iload_n 1, 1) := by decide +kernel
theorem dX6_isWithin_68 : decode cX6_isWithin 68 = .ok (.iadd, 1) := by decide +kernel
theorem dX6_isWithin_69 : decode cX6_isWithin 69 = .ok (.iaload, 1) := by decide +kernel
theorem dX6_isWithin_70 : decode cX6_isWithin 70 = .ok (.goto 12, 3) := by decide +kernel
theorem dX6_isWithin_73 : decode cX6_isWithin 73 = .ok (.aload_n 0, 1) := by decide +kernel
theorem dX6_isWithin_74 : decode cX6_isWithin 74 = .ok (.getfield 7, 3) := by decide +kernel
theorem dX6_isWithin_77 : decode cX6_isWithin 77 = .ok (.bipush 14, 2) := by decide +kernel
theorem dX6_isWithin_79 : decode cX6_isWithin 79 = .ok (.iload_n 2, 1) := by decide +kernel
theorem dX6_isWithin_80 : decode cX6_isWithin 80 = .ok (.iadd, 1) := by decide +kernel
theorem dX6_isWithin_81 : decode cX6_isWithin 81 = .ok (.iaload, 1) := by decide +kernel
theorem dX6_isWithin_82 : decode cX6_isWithin 82 = .ok (.istore 5, 2) := by decide +kernel
theorem dX6_isWithin_84 : decode cX6_isWithin 84 = .ok (.aload_n 0, 1) := by decide +kernel
theorem dX6_isWithin_85 : decode cX6_isWithin 85 = .ok (.getfield 7, 3) := by decide +kernel
theorem dX6_isWithin_88 : decode cX6_isWithin 88 = .ok (.iconst 4, 1) := by decide +kernel
theorem dX6_isWithin_89 : decode cX6_isWithin 89 = .ok (.iload_n 1, 1) := by decide +kernel
theorem dX6_isWithin_90 : decode cX6_isWithin 90 = .ok (.iadd, 1) := by decide +kernel
theorem dX6_isWithin_91 : decode cX6_isWithin 91 = .ok (.iaload, 1) := by decide +kernel
theorem dX6_isWithin_92 : decode cX6_isWithin 92 = .ok (.aload_n 0, 1) := by decide +kernel
theorem dX6_isWithin_93 : decode cX6_isWithin 93 = .ok (.getfield 7, 3) := by decide +kernel
theorem dX6_isWithin_96 : decode cX6_isWithin 96 = .ok (.iconst 4, 1) := by decide +kernel
theorem dX6_isWithin_97 : decode cX6_isWithin 97 = .ok (.iload_n 2, 1) := by decide +kernel
theorem dX6_isWithin_98 : decode cX6_isWithin 98 = .ok (.iadd, 1) := by decide +kernel
theorem dX6_isWithin_99 : decode cX6_isWithin 99 = .ok (.iaload, 1) := by decide +kernel
theorem dX6_isWithin_100 : decode cX6_isWithin 100 = .ok (.iadd, 1) := by decide +kernel
theorem dX6_isWithin_101 : decode cX6_isWithin 101 = .ok (.iload 4, 2) := by decide +kernel
theorem dX6_isWithin_103 : decode cX6_isWithin 103 = .ok (.isub, 1) := by decide +kernel
theorem dX6_isWithin_104 : decode cX6_isWithin 104 = .ok (.istore 6, 2) := by decide +kernel
theorem dX6_isWithin_106 : decode cX6_isWithin 106 = .ok (.aload_n 0, 1) := by decide +kernel
theorem dX6_isWithin_107 : decode cX6_isWithin 107 = .ok (.getfield 7, 3) := by decide +kernel
theorem dX6_isWithin_110 : decode cX6_isWithin 110 = .ok (.bipush 14, 2) := by decide +kernel
theorem dX6_isWithin_112 : decode cX6_isWithin 112 = .ok (.iload_n 1, 1) := by decide +kernel
theorem dX6_isWithin_113 : decode cX6_isWithin 113 = .ok (.iadd, 1) := by decide +kernel
theorem dX6_isWithin_114 : decode cX6_isWithin 114 = .ok (.iaload, 1) := by decide +kernel
theorem dX6_isWithin_115 : decode cX6_isWithin 115 = .ok (.aload_n 0, 1) := by decide +kernel
theorem dX6_isWithin_116 : decode cX6_isWithin 116 = .ok (.getfield 7, 3) := by decide +kernel
theorem dX6_isWithin_119 : decode cX6_isWithin 119 = .ok (.bipush 14, 2) := by decide +kernel
theorem dX6_isWithin_121 : decode cX6_isWithin 121 = .ok (.iload_n 2, 1) := by decide +kernel
theorem dX6_isWithin_122 : decode cX6_isWithin 122 = .ok (.iadd, 1) := by decide +kernel
theorem dX6_isWithin_123 : decode cX6_isWithin 123 = .ok (.iaload, 1) := by decide +kernel
theorem dX6_isWithin_124 : decode cX6_isWithin 124 = .ok (.iadd, 1) := by decide +kernel
theorem dX6_isWithin_125 : decode cX6_isWithin 125 = .ok (.iload 5, 2) := by decide +kernel
theorem dX6_isWithin_127 : decode cX6_isWithin 127 = .ok (.isub, 1) := by decide +kernel
theorem dX6_isWithin_128 : decode cX6_isWithin 128 = .ok (.istore 7, 2) := by decide +kernel
theorem dX6_isWithin_130 : decode cX6_isWithin 130 = .ok (.aload_n 0, 1) := by decide +kernel
theorem dX6_isWithin_131 : decode cX6_isWithin 131 = .ok (.iload_n 1, 1) := by decide +kernel
theorem dX6_isWithin_132 : decode cX6_isWithin 132 = .ok (.iload_n 2, 1) := by decide +kernel
theorem dX6_isWithin_133 : decode cX6_isWithin 133 = .ok (.iload_n 3, 1) := by decide +kernel
theorem dX6_isWithin_134 : decode cX6_isWithin 134 = .ok (.invokevirtual 60, 3) := by decide +kernel
theorem dX6_isWithin_137 : decode cX6_isWithin 137 = .ok (.ifCond .ne 44, 3) := by decide +kernel
theorem dX6_isWithin_140 : decode cX6_isWithin 140 = .ok (.aload_n 0, 1) := by decide +kernel
theorem dX6_isWithin_141 : decode cX6_isWithin 141 = .ok (.getfield 7, 3) := by decide +kernel
theorem dX6_isWithin_144 : decode cX6_isWithin 144 = .ok (.iconst 4, 1) := by decide +kernel
theorem dX6_isWithin_145 : decode cX6_isWithin 145 = .ok (.iload_n 3, 1) := by decide +kernel
theorem dX6_isWithin_146 : decode cX6_isWithin 146 = .ok (.iadd, 1) := by decide +kernel
theorem dX6_isWithin_147 : decode cX6_isWithin 147 = .ok (.iaload, 1) := by decide +kernel
theorem dX6_isWithin_148 : decode cX6_isWithin 148 = .ok (.iload 4, 2) := by decide +kernel
theorem dX6_isWithin_150 : decode cX6_isWithin 150 = .ok (.iload 6, 2) := by decide +kernel
theorem dX6_isWithin_152 : decode cX6_isWithin 152 = .ok (.invokestatic 38, 3) := by decide +kernel
theorem dX6_isWithin_155 : decode cX6_isWithin 155 = .ok (.ifCond .eq 26, 3) := by decide +kernel
theorem dX6_isWithin_158 : decode cX6_isWithin 158 = .ok (.aload_n 0, 1) := by decide +kernel
theorem dX6_isWithin_159 : decode cX6_isWithin 159 = .ok (.getfield 7, 3) := by decide +kernel
theorem dX6_isWithin_162 : decode cX6_isWithin 162 = .ok (.bipush 14, 2) := by decide +kernel
theorem dX6_isWithin_164 : decode cX6_isWithin 164 = .ok (.iload_n 3, 1) := by decide +kernel
theorem dX6_isWithin_165 : decode cX6_isWithin 165 = .ok (.iadd, 1) := by decide +kernel
theorem dX6_isWithin_166 : decode cX6_isWithin 166 = .ok (.iaload, 1) := by decide +kernel
theorem dX6_isWithin_167 : decode cX6_isWithin 167 = .ok (.iload 5, 2) := by decide +kernel
theorem dX6_isWithin_169 : decode cX6_isWithin 169 = .ok (.iload 7, 2) := by decide +kernel
theorem dX6_isWithin_171 : decode cX6_isWithin 171 = .ok (.invokestatic 38, 3) := by decide +kernel
theorem dX6_isWithin_174 : decode cX6_isWithin 174 = .ok (.ifCond .eq 7, 3) := by decide +kernel
theorem dX6_isWithin_177 : decode cX6_isWithin 177 = .ok (.iconst 1, 1) := by decide +kernel
theorem dX6_isWithin_178 : decode cX6_isWithin 178 = .ok (.goto 4, 3) := by decide +kernel
theorem dX6_isWithin_181 : decode cX6_isWithin 181 = .ok (.iconst 0, 1) := by decide +kernel
theorem dX6_isWithin_182 : decode cX6_isWithin 182 = .ok (.ireturn, 1) := by decide +kernel
set_option maxRecDepth 20000 in
theorem ggX6_doMeet_X6_isWithin : GoodIn wsX6_doMeet wsX6_isWithin := goodIn_r _ [5, 6, 7, 8, 9, 4, 10, 11, 12, 13, 14, 15, 16, 17, 18, 19, 20, 21, 22, 23, 24, 25, 26, 27, 28, 29, 30, 31, 32, 33, 34, 35, 36, 37, 38, 39] (by decide +kernel) (by decide +kernel)
set_option maxRecDepth 20000 in
theorem gX6_doMeet_X6_isWithin : GoodIn wsX6_doMeet (wsV RX6 88 RX6 yX6_isWithin wsX6_isWithin) := goodIn_app (goodIn_of _ (by decide +kernel)) ggX6_doMeet_X6_isWithin
set_option maxRecDepth 20000 in
theorem ggX6_doMeet_X6_side : GoodIn wsX6_doMeet wsX6_side := goodIn_r _ [10, 6, 14, 15, 16, 17, 18, 19, 20, 21, 22, 23, 24, 25, 26, 27, 28, 29, 30, 31, 32, 33, 34, 35, 36, 37, 38, 39] (by decide +kernel) (by decide +kernel)
set_option maxRecDepth 20000 in
theorem gX6_doMeet_X6_side : GoodIn wsX6_doMeet (wsV RX6 60 RX6 yX6_side wsX6_side) := goodIn_app (goodIn_of _ (by decide +kernel)) ggX6_doMeet_X6_side
theorem dX6_doMeet_0 : decode cX6_doMeet 0 = .ok (.aload_n 0, 1) := by decide +kernel
theorem dX6_doMeet_1 : decode cX6_doMeet 1 = .ok (.iload_n 1, 1) := by decide +kernel
theorem dX6_doMeet_2 : decode cX6_doMeet 2 = .ok (.iload_n 2, 1) := by decide +kernel
theorem dX6_doMeet_3 : decode cX6_doMeet 3 = .ok (.iload_n 3, 1) := by decide +kernel
theorem dX6_doMeet_4 : decode cX6_doMeet 4 = .ok (.invokevirtual 88, 3) := by decide +kernel
theorem dX6_doMeet_7 : decode cX6_doMeet 7 = .ok (.ifCond .ne 36, 3) := by decide +kernel
theorem dX6_doMeet_10 : decode cX6_doMeet 10 = .ok (.aload_n 0, 1) := by decide +kernel
theorem dX6_doMeet_11 : decode cX6_doMeet 11 = .ok (.iload_n 1, 1) := by decide +kernel
theorem dX6_doMeet_12 : decode cX6_doMeet 12 = .ok (.iload_n 2, 1) := by decide +kernel
theorem dX6_doMeet_13 : decode cX6_doMeet 13 = .ok (.iload 4, 2) := by decide +kernel
theorem dX6_doMeet_15 : decode cX6_doMeet 15 = .ok (.invokevirtual 88, 3) := by decide +kernel
theorem dX6_doMeet_18 : decode cX6_doMeet 18 = .ok (.ifCond .ne 25, 3) := by decide +kernel
theorem dX6_doMeet_21 : decode cX6_doMeet 21 = .ok (.aload_n 0, 1) := by decide +kernel
theorem dX6_doMeet_22 : decode cX6_doMeet 22 = .ok (.iload_n 3, 1) := by decide +kernel
theorem dX6_doMeet_23 : decode cX6_doMeet 23 = .ok (.iload 4, 2) := by decide +kernel
theorem dX6_doMeet_25 : decode cX6_doMeet 25 = .ok (.iload_n 1, 1) := by decide +kernel
theorem dX6_doMeet_26 : decode cX6_doMeet 26 = .ok (.invokevirtual 88, 3) := by decide +kernel
theorem dX6_doMeet_29 : decode cX6_doMeet 29 = .ok (.ifCond .ne 14, 3) := by decide +kernel
theorem dX6_doMeet_32 : decode cX6_doMeet 32 = .ok (.aload_n 0, 1) := by decide +kernel
theorem dX6_doMeet_33 : decode cX6_doMeet 33 = .ok (.iload_n 3, 1) := by decide +kernel
theorem dX6_doMeet_34 : decode cX6_doMeet 34 = .ok (.iload 4, 2) := by decide +kernel
theorem dX6_doMeet_36 : decode cX6_doMeet 36 = .ok (.iload_n 2, 1) := by decide +kernel
theorem dX6_doMeet_37 : decode cX6_doMeet 37 = .ok (.invokevirtual 88, 3) := by decide +kernel
theorem dX6_doMeet_40 : decode cX6_doMeet 40 = .ok (.ifCond .eq 5, 3) := by decide +kernel
theorem dX6_doMeet_43 : decode cX6_doMeet 43 = .ok (.iconst 1, 1) := by decide +kernel
theorem dX6_doMeet_44 : decode cX6_doMeet 44 = .ok (.ireturn, 1) := by decide +kernel
theorem dX6_doMeet_45 : decode cX6_doMeet 45 = .ok (.aload_n 0, 1) := by decide +kernel
theorem dX6_doMeet_46 : decode cX6_doMeet 46 = .ok (.iload_n 1, 1) := by decide +kernel
theorem dX6_doMeet_47 : decode cX6_doMeet 47 = .ok (.iload_n 2, 1) := by decide +kernel
theorem dX6_doMeet_48 : decode cX6_doMeet 48 = .ok (.iload_n 3, 1) := by decide +kernel
theorem dX6_doMeet_49 : decode cX6_doMeet 49 = .ok (.invokevirtual 60, 3) := by decide +kernel
theorem dX6_doMeet_52 : decode cX6_doMeet 52 = .ok (.ifCond .le 7, 3) := by decide +kernel
theorem dX6_doMeet_55 : decode cX6_doMeet 55 = .ok (.iconst 1, 1) := by decide +kernel
theorem dX6_doMeet_56 : decode cX6_doMeet 56 = .ok (.goto 4, 3) := by decide +kernel
theorem dX6_doMeet_59 : decode cX6_doMeet 59 = .ok (.iconst 0, 1) := by decide +kernel
theorem dX6_doMeet_60 : decode cX6_doMeet 60 = .ok (.aload_n 0, 1) := by decide +kernel
theorem dX6_doMeet_61 : decode cX6_doMeet 61 = .ok (.iload_n 1, 1) := by decide +kernel
theorem dX6_doMeet_62 : decode cX6_doMeet 62 = .ok (.iload_n 2, 1) := by decide +kernel
theorem dX6_doMeet_63 : decode cX6_doMeet 63 = .ok (.iload 4, 2) := by decide +kernel
theorem dX6_doMeet_65 : decode cX6_doMeet 65 = .ok (.invokevirtual 60, 3) := by decide +kernel
theorem dX6_doMeet_68 : decode cX6_doMeet 68 = .ok (.ifCond .le 7, 3) := by decide +kernel
theorem dX6_doMeet_71 : decode cX6_doMeet 71 = .ok (.iconst 1, 1) := by decide +kernel
theorem dX6_doMeet_72 : decode cX6_doMeet 72 = .ok (.goto 4, 3) := by decide +kernel
theorem dX6_doMeet_75 : decode cX6_doMeet 75 = .ok (.iconst 0, 1) := by decide +kernel
theorem dX6_doMeet_76 : decode cX6_doMeet 76 = .ok (.if_icmp .eq 38, 3) := by decide +kernel
theorem dX6_doMeet_79 : decode cX6_doMeet 79 = .ok (.aload_n 0, 1) := by decide +kernel
theorem dX6_doMeet_80 : decode cX6_doMeet 80 = .ok (.iload_n 3, 1) := by decide +kernel
theorem dX6_doMeet_81 : decode cX6_doMeet 81 = .ok (.iload 4, 2) := by decide +kernel
theorem dX6_doMeet_83 : decode cX6_doMeet 83 = .ok (.iload_n 1, 1) := by decide +kernel
theorem dX6_doMeet_84 : decode cX6_doMeet 84 = .ok (.invokevirtual 60, 3) := by decide +kernel
theorem dX6_doMeet_87 : decode cX6_doMeet 87 = .ok (.ifCond .le 7, 3) := by decide +kernel
theorem dX6_doMeet_90 : decode cX6_doMeet 90 = .ok (.iconst 1, 1) := by decide +kernel
theorem dX6_doMeet_91 : decode cX6_doMeet 91 = .ok (.goto 4, 3) := by decide +kernel
theorem dX6_doMeet_94 : decode cX6_doMeet 94 = .ok (.iconst 0, 1) := by decide +kernel
theorem dX6_doMeet_95 : decode cX6_doMeet 95 = .ok (.aload_n 0, 1) := by decide +kernel
theorem dX6_doMeet_96 : decode cX6_doMeet 96 = .ok (.iload_n 3, 1) := by decide +kernel
theorem dX6_doMeet_97 : decode cX6_doMeet 97 = .ok (.iload 4, 2) := by decide +kernel
theorem dX6_doMeet_99 : decode cX6_doMeet 99 = .ok (.iload_n 2, 1) := by decide +kernel
theorem dX6_doMeet_100 : decode cX6_doMeet 100 = .ok (.invokevirtual 60, 3) := by decide +kernel
theorem dX6_doMeet_103 : decode cX6_doMeet 103 = .ok (.ifCond .le 7, 3) := by decide +kernel
theorem dX6_doMeet_106 : decode cX6_doMeet 106 = .ok (.iconst 1, 1) := by decide +kernel
theorem dX6_doMeet_107 : decode cX6_doMeet 107 = .ok (.goto 4, 3) := by decide +kernel
theorem dX6_doMeet_110 : decode cX6_doMeet 110 = .ok (.iconst 0, 1) := by decide +kernel
theorem dX6_doMeet_111 : decode cX6_doMeet 111 = .ok (.if_icmp .ne 7, 3) := by decide +kernel
theorem dX6_doMeet_114 : decode cX6_doMeet 114 = .ok (.iconst 1, 1) := by decide +kernel
theorem dX6_doMeet_115 : decode cX6_doMeet 115 = .ok (.goto 4, 3) := by decide +kernel
theorem dX6_doMeet_118 : decode cX6_doMeet 118 = .ok (.iconst 0, 1) := by decide +kernel
theorem dX6_doMeet_119 : decode cX6_doMeet 119 = .ok (.istore 5, 2) := by decide +kernel
theorem dX6_doMeet_121 : decode cX6_doMeet 121 = .ok (.iload 5, 2) := by decide +kernel
theorem dX6_doMeet_123 : decode cX6_doMeet 123 = .ok (.ifCond .ne 50, 3) := by decide +kernel
theorem dX6_doMeet_126 : decode cX6_doMeet 126 = .ok (.aload_n 0, 1) := by decide +kernel
theorem dX6_doMeet_127 : decode cX6_doMeet 127 = .ok (.iload_n 1, 1) := by decide +kernel
theorem dX6_doMeet_128 : decode cX6_doMeet 128 = .ok (.iload_n 2, 1) := by decide +kernel
theorem dX6_doMeet_129 : decode cX6_doMeet 129 = .ok (.iload_n 3, 1) := by decide +kernel
theorem dX6_doMeet_130 : decode cX6_doMeet 130 = .ok (.invokevirtual 60, 3) := by decide +kernel
theorem dX6_doMeet_133 : decode cX6_doMeet 133 = .ok (.ifCond .eq 40, 3) := by decide +kernel
theorem dX6_doMeet_136 : decode cX6_doMeet 136 = .ok (.aload_n 0, 1) := by decide +kernel
theorem dX6_doMeet_137 : decode cX6_doMeet 137 = .ok (.iload_n 1, 1) := by decide +kernel
theorem dX6_doMeet_138 : decode cX6_doMeet 138 = .ok (.iload_n 2, 1) := by decide +kernel
theorem dX6_doMeet_139 : decode cX6_doMeet 139 = .ok (.iload 4, 2) := by decide +kernel
theorem dX6_doMeet_141 : decode cX6_doMeet 141 = .ok (.invokevirtual 60, 3) := by decide +kernel
theorem dX6_doMeet_144 : decode cX6_doMeet 144 = .ok (.ifCond .eq 29, 3) := by decide +kernel
theorem dX6_doMeet_147 : decode cX6_doMeet 147 = .ok (.aload_n 0, 1) := by decide +kernel
theorem dX6_doMeet_148 : decode cX6_doMeet 148 = .ok (.iload_n 3, 1) := by decide +kernel
theorem dX6_doMeet_149 : decode cX6_doMeet 149 = .ok (.iload 4, 2) := by decide +kernel
theorem dX6_doMeet_151 : decode cX6_doMeet 151 = .ok (.iload_n 1, 1) := by decide +kernel
theorem dX6_doMeet_152 : decode cX6_doMeet 152 = .ok (.invokevirtual 60, 3) := by decide +kernel
theorem dX6_doMeet_155 : decode cX6_doMeet 155 = .ok (.ifCond .eq 18, 3) := by decide +kernel
theorem dX6_doMeet_158 : decode cX6_doMeet 158 = .ok (.aload_n 0, 1) := by decide +kernel
theorem dX6_doMeet_159 : decode cX6_doMeet 159 = .ok (.iload_n 3, 1) := by decide +kernel
theorem dX6_doMeet_160 : decode cX6_doMeet 160 = .ok (.iload 4, 2) := by decide +kernel
theorem dX6_doMeet_162 : decode cX6_doMeet 162 = .ok (.iload_n 2, 1) := by decide +kernel
theorem dX6_doMeet_163 : decode cX6_doMeet 163 = .ok (.invokevirtual 60, 3) := by decide +kernel
theorem dX6_doMeet_166 : decode cX6_doMeet 166 = .ok (.ifCond .eq 7, 3) := by decide +kernel
theorem dX6_doMeet_169 : decode cX6_doMeet 169 = .ok (.iconst 1, 1) := by decide +kernel
theorem dX6_doMeet_170 : decode cX6_doMeet 170 = .ok (.goto 4, 3) := by decide +kernel
theorem dX6_doMeet_173 : decode cX6_doMeet 173 = .ok (.iconst 0, 1) := by decide +kernel
theorem dX6_doMeet_174 : decode cX6_doMeet 174 = .ok (.ireturn, 1) := by decide +kernel
set_option maxRecDepth 20000 in
theorem ggX6_crossings_X6_areLinked : GoodIn wsX6_crossings wsX6_areLinked := goodIn_r _ [6, 1, 7, 8, 9, 5, 10, 11, 12, 13, 14, 15, 16, 17, 33, 34, 35, 36, 37, 38, 39, 40, 41, 42, 43, 44, 45, 46, 47, 48, 49, 50, 51, 52, 53, 54, 55, 56, 57, 58] (by decide +kernel) (by decide +kernel)
set_option maxRecDepth 20000 in
theorem gX6_crossings_X6_areLinked : GoodIn wsX6_crossings (wsV RX6 54 RX6 yX6_areLinked wsX6_areLinked) := goodIn_app (goodIn_of _ (by decide +kernel)) ggX6_crossings_X6_areLinked
set_option maxRecDepth 20000 in
theorem ggX6_crossings_X6_doMeet : GoodIn wsX6_crossings wsX6_doMeet := goodIn_r _ [21, 22, 23, 24, 5, 25, 1, 26, 27, 28, 29, 30, 31, 32, 33, 34, 35, 36, 37, 38, 39, 40, 41, 42, 43, 44, 45, 46, 47, 48, 49, 50, 51, 52, 53, 54, 55, 56, 57, 58] (by decide +kernel) (by decide +kernel)
set_option maxRecDepth 20000 in
theorem gX6_crossings_X6_doMeet : GoodIn wsX6_crossings (wsV RX6 91 RX6 yX6_doMeet wsX6_doMeet) := goodIn_app (goodIn_of _ (by decide +kernel)) ggX6_crossings_X6_doMeet
theorem dX6_crossings_0 : decode cX6_crossings 0 = .ok (.aload_n 0, 1) := by decide +kernel
theorem dX6_crossings_1 : decode cX6_crossings 1 = .ok (.getfield 7, 3) := by decide +kernel
theorem dX6_crossings_4 : decode cX6_crossings 4 = .ok (.iconst 0, 1) := by decide +kernel
theorem dX6_crossings_5 : decode cX6_crossings 5 = .ok (.iaload, 1) := by decide +kernel
theorem dX6_crossings_6 : decode cX6_crossings 6 = .ok (.istore_n 1, 1) := by decide +kernel
theorem dX6_crossings_7 : decode cX6_crossings 7 = .ok (.iconst 0, 1) := by decide +kernel
theorem dX6_crossings_8 : decode cX6_crossings 8 = .ok (.istore_n 2, 1) := by decide +kernel
theorem dX6_crossings_9 : decode cX6_crossings 9 = .ok (.iconst 0, 1) := by decide +kernel
theorem dX6_crossings_10 : decode cX6_crossings 10 = .ok (.istore_n 3, 1) := by decide +kernel
theorem dX6_crossings_11 : decode cX6_crossings 11 = .ok (.iload_n 3, 1) := by decide +kernel
theorem dX6_crossings_12 : decode cX6_crossings 12 = .ok (.iload_n 1, 1) := by decide +kernel
theorem dX6_crossings_13 : decode cX6_crossings 13 = .ok (.iload_n 1, 1) := by decide +kernel
theorem dX6_crossings_14 : decode cX6_crossings 14 = .ok (.imul, 1) := by decide +kernel
theorem dX6_crossings_15 : decode cX6_crossings 15 = .ok (.if_icmp .ge 149, 3) := by decide +kernel
theorem dX6_crossings_18 : decode cX6_crossings 18 = .ok (.iload_n 3, 1) := by decide +kernel
theorem dX6_crossings_19 : decode cX6_crossings 19 = .ok (.iconst 1, 1) := by decide +kernel
theorem dX6_crossings_20 : decode cX6_crossings 20 = .ok (.iadd, 1) := by decide +kernel
theorem dX6_crossings_21 : decode cX6_crossings 21 = .ok (.istore 4, 2) := by decide +kernel
theorem dX6_crossings_23 : decode cX6_crossings 23 = .ok (.iload 4, 2) := by decide +kernel
theorem dX6_crossings_25 : decode cX6_crossings 25 = .ok (.iload_n 1, 1) := by decide +kernel
theorem dX6_crossings_26 : decode cX6_crossings 26 = .ok (.iload_n 1, 1) := by decide +kernel
theorem dX6_crossings_27 : decode cX6_crossings 27 = .ok (.imul, 1) := by decide +kernel
theorem dX6_crossings_28 : decode cX6_crossings 28 = .ok (.if_icmp .ge 130, 3) := by decide +kernel
theorem dX6_crossings_31 : decode cX6_crossings 31 = .ok (.iload_n 3, 1) := by decide +kernel
theorem dX6_crossings_32 : decode cX6_crossings 32 = .ok (.iload_n 1, 1) := by decide +kernel
theorem dX6_crossings_33 : decode cX6_crossings 33 = .ok (.idiv, 1) := by decide +kernel
theorem dX6_crossings_34 : decode cX6_crossings 34 = .ok (.istore 5, 2) := by decide +kernel
theorem dX6_crossings_36 : decode cX6_crossings 36 = .ok (.iload_n 3, 1) := by decide +kernel
theorem dX6_crossings_37 : decode cX6_crossings 37 = .ok (.iload_n 1, 1) := by decide +kernel
theorem dX6_crossings_38 : decode cX6_crossings 38 = .ok (.irem, 1) := by decide +kernel
theorem dX6_crossings_39 : decode cX6_crossings 39 = .ok (.istore 6, 2) := by decide +kernel
theorem dX6_crossings_41 : decode cX6_crossings 41 = .ok (.iload 4, 2) := by decide +kernel
theorem dX6_crossings_43 : decode cX6_crossings 43 = .ok (.iload_n 1, 1) := by decide +kernel
theorem dX6_crossings_44 : decode cX6_crossings 44 = .ok (.idiv, 1) := by decide +kernel
theorem dX6_crossings_45 : decode cX6_crossings 45 = .ok (.istore 7, 2) := by decide +kernel
theorem dX6_crossings_47 : decode cX6_crossings 47 = .ok (.iload 4, 2) := by decide +kernel
theorem dX6_crossings_49 : decode cX6_crossings 49 = .ok (.iload_n 1, 1) := by decide +kernel
theorem dX6_crossings_50 : decode cX6_crossings 50 = .ok (.irem, 1) := by decide +kernel
theorem dX6_crossings_51 : decode cX6_crossings 51 = .ok (.istore 8, 2) := by decide +kernel
theorem dX6_crossings_53 : decode cX6_crossings 53 = .ok (.iload 5, 2) := by decide +kernel
theorem dX6_crossings_55 : decode cX6_crossings 55 = .ok (.iload 6, 2) := by decide +kernel
theorem dX6_crossings_57 : decode cX6_crossings 57 = .ok (.if_icmp .ge 42, 3) := by decide +kernel
theorem dX6_crossings_60 : decode cX6_crossings 60 = .ok (.iload 7, 2) := by decide +kernel
theorem dX6_crossings_62 : decode cX6_crossings 62 = .ok (.iload 8, 2) := by decide +kernel
theorem dX6_crossings_64 : decode cX6_crossings 64 = .ok (.if_icmp .ge 35, 3) := by decide +kernel
theorem dX6_crossings_67 : decode cX6_crossings 67 = .ok (.iload 5, 2) := by decide +kernel
theorem dX6_crossings_69 : decode cX6_crossings 69 = .ok (.iload 7, 2) := by decide +kernel
theorem dX6_crossings_71 : decode cX6_crossings 71 = .ok (.if_icmp .eq 28, 3) := by decide +kernel
theorem dX6_crossings_74 : decode cX6_crossings 74 = .ok (.iload 5, 2) := by decide +kernel
theorem dX6_crossings_76 : decode cX6_crossings 76 = .ok (.iload 8, 2) := by decide +kernel
theorem dX6_crossings_78 : decode cX6_crossings 78 = .ok (.if_icmp .eq 21, 3) := by decide +kernel
theorem dX6_crossings_81 : decode cX6_crossings 81 = .ok (.iload 6, 2) := by decide +kernel
theorem dX6_crossings_83 : decode cX6_crossings 83 = .ok (.iload 7, 2) := by decide +kernel
theorem dX6_crossings_85 : decode cX6_crossings 85 = .ok (.if_icmp .eq 14, 3) := by decide +kernel
theorem dX6_crossings_88 : decode cX6_crossings 88 = .ok (.iload 6, 2) := by decide +kernel
theorem dX6_crossings_90 : decode cX6_crossings 90 = .ok (.iload 8, 2) := by decide +kernel
theorem dX6_crossings_92 : decode cX6_crossings 92 = .ok (.if_icmp .eq 7, 3) := by decide +kernel
theorem dX6_crossings_95 : decode cX6_crossings 95 = .ok (.iconst 1, 1) := by decide +kernel
theorem dX6_crossings_96 : decode cX6_crossings 96 = .ok (.goto 4, 3) := by decide +kernel
theorem dX6_crossings_99 : decode cX6_crossings 99 = .ok (.iconst 0, 1) := by decide +kernel
theorem dX6_crossings_100 : decode cX6_crossings 100 = .ok (.istore 9, 2) := by decide +kernel
theorem dX6_crossings_102 : decode cX6_crossings 102 = .ok (.iload_n 2, 1) := by decide +kernel
theorem dX6_crossings_103 : decode cX6_crossings 103 = .ok (.iload 9, 2) := by decide +kernel
theorem dX6_crossings_105 : decode cX6_crossings 105 = .ok (.ifCond .eq 44, 3) := by decide +kernel
theorem dX6_crossings_108 : decode cX6_crossings 108 = .ok (.aload_n 0, 1) := by decide +kernel
theorem dX6_crossings_109 : decode cX6_crossings 109 = .ok (.iload 5, 2) := by decide +kernel
theorem dX6_crossings_111 : decode cX6_crossings 111 = .ok (.iload 6, 2) := by decide +kernel
theorem dX6_crossings_113 : decode cX6_crossings 113 = .ok (.invokevirtual 54, 3) := by decide +kernel
theorem dX6_crossings_116 : decode cX6_crossings 116 = .ok (.ifCond .eq 33, 3) := by decide +kernel
theorem dX6_crossings_119 : decode cX6_crossings 119 = .ok (.aload_n 0, 1) := by decide +kernel
theorem dX6_crossings_120 : decode cX6_crossings 120 = .ok (.iload 7, 2) := by decide +kernel
theorem dX6_crossings_122 : decode cX6_crossings 122 = .ok (.iload 8, 2) := by decide +kernel
theorem dX6_crossings_124 : decode cX6_crossings 124 = .ok (.invokevirtual 54, 3) := by decide +kernel
theorem dX6_crossings_127 : decode cX6_crossings 127 = .ok (.ifCond .eq 22, 3) := by decide +kernel
theorem dX6_crossings_130 : decode cX6_crossings 130 = .ok (.aload_n 0, 1) := by decide +kernel
theorem dX6_crossings_131 : decode cX6_crossings 131 = .ok (.iload 5, 2) := by decide +kernel
theorem dX6_crossings_133 : decode cX6_crossings 133 = .ok (.iload 6, 2) := by decide +kernel
theorem dX6_crossings_135 : decode cX6_crossings 135 = .ok (.iload 7, 2) := by decide +kernel
theorem dX6_crossings_137 : decode cX6_crossings 137 = .ok (.iload 8, 2) := by decide +kernel
theorem dX6_crossings_139 : decode cX6_crossings 139 = .ok (.invokevirtual 91, 3) := by decide +kernel
theorem dX6_crossings_142 : decode cX6_crossings 142 = .ok (.ifCond .eq 7, 3) := by decide +kernel
theorem dX6_crossings_145 : decode cX6_crossings 145 = .ok (.iconst 1, 1) := by decide +kernel
theorem dX6_crossings_146 : decode cX6_crossings 146 = .ok (.goto 4, 3) := by decide +kernel
theorem dX6_crossings_149 : decode cX6_crossings 149 = .ok (.iconst 0, 1) := by decide +kernel
theorem dX6_crossings_150 : decode cX6_crossings 150 = .ok (.iadd, 1) := by decide +kernel
theorem dX6_crossings_151 : decode cX6_crossings 151 = .ok (.istore_n 2, 1) := by decide +kernel
theorem dX6_crossings_152 : decode cX6_crossings 152 = .ok (.iinc 4 1, 3) := by decide +kernel
theorem dX6_crossings_155 : decode cX6_crossings 155 = .ok (.goto (-132), 3) := by decide +kernel
theorem dX6_crossings_158 : decode cX6_crossings 158 = .ok (.iinc 3 1, 3) := by decide +kernel
theorem dX6_crossings_161 : decode cX6_crossings 161 = .ok (.goto (-150), 3) := by decide +kernel
theorem dX6_crossings_164 : decode cX6_crossings 164 = .ok (.iload_n 2, 1) := by decide +kernel
theorem dX6_crossings_165 : decode cX6_crossings 165 = .ok (.ireturn, 1) := by decide +kernel
set_option maxRecDepth 20000 in
theorem ggX6_nearerOf_X6_areLinked : GoodIn wsX6_nearerOf wsX6_areLinked := goodIn_r _ [6, 1, 7, 8, 9, 5, 10, 11, 12, 13, 14, 15, 16, 17, 18, 19, 20, 21, 22, 23, 24, 25, 26, 27, 28, 29, 30, 31, 32, 33, 34, 35, 36, 37, 38, 39, 40, 41, 42, 43] (by decide +kernel) (by decide +kernel)
set_option maxRecDepth 20000 in
theorem gX6_nearerOf_X6_areLinked : GoodIn wsX6_nearerOf (wsV RX6 54 RX6 yX6_areLinked wsX6_areLinked) := goodIn_app (goodIn_of _ (by decide +kernel)) ggX6_nearerOf_X6_areLinked
set_option maxRecDepth 20000 in
theorem ggX6_nearerOf_X6_farOf : GoodIn wsX6_nearerOf wsX6_farOf := goodIn_r _ [17, 1, 18, 19, 20, 21, 22, 23, 24, 25, 26, 27, 28, 29, 30, 31, 32, 33, 34, 35, 36, 37, 38, 39, 40, 41, 42, 43] (by decide +kernel) (by decide +kernel)
set_option maxRecDepth 20000 in
theorem gX6_nearerOf_X6_farOf : GoodIn wsX6_nearerOf (wsV RX6 50 RX6 yX6_farOf wsX6_farOf) := goodIn_app (goodIn_of _ (by decide +kernel)) ggX6_nearerOf_X6_farOf
theorem dX6_nearerOf_0 : decode cX6_nearerOf 0 = .ok (.iconst (-1), 1) := by decide +kernel
theorem dX6_nearerOf_1 : decode cX6_nearerOf 1 = .ok (.istore_n 3, 1) := by decide +kernel
theorem dX6_nearerOf_2 : decode cX6_nearerOf 2 = .ok (.iconst 0, 1) := by decide +kernel
theorem dX6_nearerOf_3 : decode cX6_nearerOf 3 = .ok (.istore 4, 2) := by decide +kernel
theorem dX6_nearerOf_5 : decode cX6_nearerOf 5 = .ok (.iload 4, 2) := by decide +kernel
theorem dX6_nearerOf_7 : decode cX6_nearerOf 7 = .ok (.aload_n 0, 1) := by decide +kernel
theorem dX6_nearerOf_8 : decode cX6_nearerOf 8 = .ok (.getfield 7, 3) := by decide +kernel
theorem dX6_nearerOf_11 : decode cX6_nearerOf 11 = .ok (.iconst 0, 1) := by decide +kernel
theorem dX6_nearerOf_12 : decode cX6_nearerOf 12 = .ok (.iaload, 1) := by decide +kernel
theorem dX6_nearerOf_13 : decode cX6_nearerOf 13 = .ok (.if_icmp .ge 59, 3) := by decide +kernel
theorem dX6_nearerOf_16 : decode cX6_nearerOf 16 = .ok (.aload_n 0, 1) := by decide +kernel
theorem dX6_nearerOf_17 : decode cX6_nearerOf 17 = .ok (.iload_n 1, 1) := by decide +kernel
theorem dX6_nearerOf_18 : decode cX6_nearerOf 18 = .ok (.iload 4, 2) := by decide +kernel
theorem dX6_nearerOf_20 : decode cX6_nearerOf 20 = .ok (.invokevirtual 54, 3) := by decide +kernel
theorem dX6_nearerOf_23 : decode cX6_nearerOf 23 = .ok (.ifCond .eq 43, 3) := by decide +kernel
theorem dX6_nearerOf_26 : decode cX6_nearerOf 26 = .ok (.aload_n 0, 1) := by decide +kernel
theorem dX6_nearerOf_27 : decode cX6_nearerOf 27 = .ok (.iload 4, 2) := by decide +kernel
theorem dX6_nearerOf_29 : decode cX6_nearerOf 29 = .ok (.iload_n 2, 1) := by decide +kernel
theorem dX6_nearerOf_30 : decode cX6_nearerOf 30 = .ok (.invokevirtual 50, 3) := by decide +kernel
theorem dX6_nearerOf_33 : decode cX6_nearerOf 33 = .ok (.aload_n 0, 1) := by decide +kernel
theorem dX6_nearerOf_34 : decode cX6_nearerOf 34 = .ok (.iload_n 1, 1) := by decide +kernel
theorem dX6_nearerOf_35 : decode cX6_nearerOf 35 = .ok (.iload_n 2, 1) := by decide +kernel
theorem dX6_nearerOf_36 : decode cX6_nearerOf 36 = .ok (.invokevirtual 50, 3) := by decide +kernel
theorem dX6_nearerOf_39 : decode cX6_nearerOf 39 = .ok (.if_icmp .ge 27, 3) := by decide +kernel
theorem dX6_nearerOf_42 : decode cX6_nearerOf 42 = .ok (.iload_n 3, 1) := by decide +kernel
theorem dX6_nearerOf_43 : decode cX6_nearerOf 43 = .ok (.iconst (-1), 1) := by decide +kernel
theorem dX6_nearerOf_44 : decode cX6_nearerOf 44 = .ok (.if_icmp .eq 19, 3) := by decide +kernel
theorem dX6_nearerOf_47 : decode cX6_nearerOf 47 = .ok (.aload_n 0, 1) := by decide +kernel
theorem dX6_nearerOf_48 : decode cX6_nearerOf 48 = .ok (.iload 4, 2) := by decide +kernel
theorem dX6_nearerOf_50 : decode cX6_nearerOf 50 = .ok (.iload_n 2, 1) := by decide +kernel
theorem dX6_nearerOf_51 : decode cX6_nearerOf 51 = .ok (.invokevirtual 50, 3) := by decide +kernel
theorem dX6_nearerOf_54 : decode cX6_nearerOf 54 = .ok (.aload_n 0, 1) := by decide +kernel
theorem dX6_nearerOf_55 : decode cX6_nearerOf 55 = .ok (.iload_n 3, 1) := by decide +kernel
theorem dX6_nearerOf_56 : decode cX6_nearerOf 56 = .ok (.iload_n 2, 1) := by decide +kernel
theorem dX6_nearerOf_57 : decode cX6_nearerOf 57 = .ok (.invokevirtual 50, 3) := by decide +kernel
theorem dX6_nearerOf_60 : decode cX6_nearerOf 60 = .ok (.if_icmp .ge 6, 3) := by decide +kernel
theorem dX6_nearerOf_63 : decode cX6_nearerOf 63 = .ok (.iload 4, 2) := by decide +kernel
theorem dX6_nearerOf_65 : decode cX6_nearerOf 65 = .ok (.istore_n 3, 1) := by decide +kernel
theorem dX6_nearerOf_66 : decode cX6_nearerOf 66 = .ok (.iinc 4 1, 3) := by decide +kernel
theorem dX6_nearerOf_69 : decode cX6_nearerOf 69 = .ok (.goto (-64), 3) := by decide +kernel
theorem dX6_nearerOf_72 : decode cX6_nearerOf 72 = .ok (.iload_n 3, 1) := by decide +kernel
theorem dX6_nearerOf_73 : decode cX6_nearerOf 73 = .ok (.ireturn, 1) := by decide +kernel
theorem dX6_wasSo_0 : decode cX6_wasSo 0 = .ok (.iconst 0, 1) := by decide +kernel
theorem dX6_wasSo_1 : decode cX6_wasSo 1 = .ok (.istore_n 1, 1) := by decide +kernel
theorem dX6_wasSo_2 : decode cX6_wasSo 2 = .ok (.iload_n 1, 1) := by decide +kernel
theorem dX6_wasSo_3 : decode cX6_wasSo 3 = .ok (.aload_n 0, 1) := by decide +kernel
theorem dX6_wasSo_4 : decode cX6_wasSo 4 = .ok (.getfield 94, 3) := by decide +kernel
theorem dX6_wasSo_7 : decode cX6_wasSo 7 = .ok (.if_icmp .ge 87, 3) := by decide +kernel
theorem dX6_wasSo_10 : decode cX6_wasSo 10 = .ok (.iconst 5, 1) := by decide +kernel
theorem dX6_wasSo_11 : decode cX6_wasSo 11 = .ok (.iload_n 1, 1) := by decide +kernel
theorem dX6_wasSo_12 : decode cX6_wasSo 12 = .ok (.imul, 1) := by decide +kernel
theorem dX6_wasSo_13 : decode cX6_wasSo 13 = .ok (.istore_n 2, 1) := by decide +kernel
theorem dX6_wasSo_14 : decode cX6_wasSo 14 = .ok (.aload_n 0, 1) := by decide +kernel
theorem dX6_wasSo_15 : decode cX6_wasSo 15 = .ok (.getfield 35, 3) := by decide +kernel
theorem dX6_wasSo_18 : decode cX6_wasSo 18 = .ok (.iload_n 2, 1) := by decide +kernel
theorem dX6_wasSo_19 : decode cX6_wasSo 19 = .ok (.iaload, 1) := by decide +kernel
theorem dX6_wasSo_20 : decode cX6_wasSo 20 = .ok (.aload_n 0, 1) := by decide +kernel
theorem dX6_wasSo_21 : decode cX6_wasSo 21 = .ok (.getfield 97, 3) := by decide +kernel
theorem dX6_wasSo_24 : decode cX6_wasSo 24 = .ok (.if_icmp .ne 64, 3) := by decide +kernel
theorem dX6_wasSo_27 : decode cX6_wasSo 27 = .ok (.aload_n 0, 1) := by decide +kernel
theorem dX6_wasSo_28 : decode cX6_wasSo 28 = .ok (.getfield 35, 3) := by decide +kernel
theorem dX6_wasSo_31 : decode cX6_wasSo 31 = .ok (.iload_n 2, 1) := by decide +kernel
theorem dX6_wasSo_32 : decode cX6_wasSo 32 = .ok (.iconst 1, 1) := by decide +kernel
theorem dX6_wasSo_33 : decode cX6_wasSo 33 = .ok (.iadd, 1) := by decide +kernel
theorem dX6_wasSo_34 : decode cX6_wasSo 34 = .ok (.iaload, 1) := by decide +kernel
theorem dX6_wasSo_35 : decode cX6_wasSo 35 = .ok (.aload_n 0, 1) := by decide +kernel
theorem dX6_wasSo_36 : decode cX6_wasSo 36 = .ok (.getfield 100, 3) := by decide +kernel
theorem dX6_wasSo_39 : decode cX6_wasSo 39 = .ok (.if_icmp .ne 49, 3) := by decide +kernel
theorem dX6_wasSo_42 : decode cX6_wasSo 42 = .ok (.aload_n 0, 1) := by decide +kernel
theorem dX6_wasSo_43 : decode cX6_wasSo 43 = .ok (.getfield 35, 3) := by decide +kernel
theorem dX6_wasSo_46 : decode cX6_wasSo 46 = .ok (.iload_n 2, 1) := by decide +kernel
theorem dX6_wasSo_47 : decode cX6_wasSo 47 = .ok (.iconst 2, 1) := by decide +kernel
theorem dX6_wasSo_48 : decode cX6_wasSo 48 = .ok (.iadd, 1) := by decide +kernel
theorem dX6_wasSo_49 : decode cX6_wasSo 49 = .ok (.iaload, 1) := by decide +kernel
theorem dX6_wasSo_50 : decode cX6_wasSo 50 = .ok (.aload_n 0, 1) := by decide +kernel
theorem dX6_wasSo_51 : decode cX6_wasSo 51 = .ok (.getfield 103, 3) := by decide +kernel
theorem dX6_wasSo_54 : decode cX6_wasSo 54 = .ok (.if_icmp .ne 34, 3) := by decide +kernel
theorem dX6_wasSo_57 : decode cX6_wasSo 57 = .ok (.aload_n 0, 1) := by decide +kernel
theorem dX6_wasSo_58 : decode cX6_wasSo 58 = .ok (.getfield 35, 3) := by decide +kernel
theorem dX6_wasSo_61 : decode cX6_wasSo 61 = .ok (.iload_n 2, 1) := by decide +kernel
theorem dX6_wasSo_62 : decode cX6_wasSo 62 = .ok (.iconst 3, 1) := by decide +kernel
theorem dX6_wasSo_63 : decode cX6_wasSo 63 = .ok (.iadd, 1) := by decide +kernel
theorem dX6_wasSo_64 : decode cX6_wasSo 64 = .ok (.iaload, 1) := by decide +kernel
theorem dX6_wasSo_65 : decode cX6_wasSo 65 = .ok (.aload_n 0, 1) := by decide +kernel
theorem dX6_wasSo_66 : decode cX6_wasSo 66 = .ok (.getfield 106, 3) := by decide +kernel
theorem dX6_wasSo_69 : decode cX6_wasSo 69 = .ok (.imul, 1) := by decide +kernel
theorem dX6_wasSo_70 : decode cX6_wasSo 70 = .ok (.aload_n 0, 1) := by decide +kernel
theorem dX6_wasSo_71 : decode cX6_wasSo 71 = .ok (.getfield 109, 3) := by decide +kernel
theorem dX6_wasSo_74 : decode cX6_wasSo 74 = .ok (.aload_n 0, 1) := by decide +kernel
theorem dX6_wasSo_75 : decode cX6_wasSo 75 = .ok (.getfield 35, 3) := by decide +kernel
theorem dX6_wasSo_78 : decode cX6_wasSo 78 = .ok (.iload_n 2, 1) := by decide +kernel
theorem dX6_wasSo_79 : decode cX6_wasSo 79 = .ok (.iconst 4, 1) := by decide +kernel
theorem dX6_wasSo_80 : decode cX6_wasSo 80 = .ok (.iadd, 1) := by decide +kernel
theorem dX6_wasSo_81 : decode cX6_wasSo 81 = .ok (.iaload, 1) := by decide +kernel
theorem dX6_wasSo_82 : decode cX6_wasSo 82 = .ok (.imul, 1) := by decide +kernel
theorem dX6_wasSo_83 : decode cX6_wasSo 83 = .ok (.if_icmp .ne 5, 3) := by decide +kernel
theorem dX6_wasSo_86 : decode cX6_wasSo 86 = .ok (.iconst 1, 1) := by decide +kernel
theorem dX6_wasSo_87 : decode cX6_wasSo 87 = .ok (.ireturn, 1) := by decide +kernel
theorem dX6_wasSo_88 : decode cX6_wasSo 88 = .ok (.iinc 1 1, 3) := by decide +kernel
theorem dX6_wasSo_91 : decode cX6_wasSo 91 = .ok (.goto (-89), 3) := by decide +kernel
theorem dX6_wasSo_94 : decode cX6_wasSo 94 = .ok (.iconst 5, 1) := by decide +kernel
theorem dX6_wasSo_95 : decode cX6_wasSo 95 = .ok (.aload_n 0, 1) := by decide +kernel
theorem dX6_wasSo_96 : decode cX6_wasSo 96 = .ok (.getfield 94, 3) := by decide +kernel
theorem dX6_wasSo_99 : decode cX6_wasSo 99 = .ok (.imul, 1) := by decide +kernel
theorem dX6_wasSo_100 : decode cX6_wasSo 100 = .ok (.istore_n 1, 1) := by decide +kernel
theorem dX6_wasSo_101 : decode cX6_wasSo 101 = .ok (.aload_n 0, 1) := by decide +kernel
theorem dX6_wasSo_102 : decode cX6_wasSo 102 = .ok (.getfield 35, 3) := by decide +kernel
theorem dX6_wasSo_105 : decode cX6_wasSo 105 = .ok (.iload_n 1, 1) := by decide +kernel
theorem dX6_wasSo_106 : decode cX6_wasSo 106 = .ok (.aload_n 0, 1) := by decide +kernel
theorem dX6_wasSo_107 : decode cX6_wasSo 107 = .ok (.getfield 97, 3) := by decide +kernel
theorem dX6_wasSo_110 : decode cX6_wasSo 110 = .ok (.iastore, 1) := by decide +kernel
theorem dX6_wasSo_111 : decode cX6_wasSo 111 = .ok (.aload_n 0, 1) := by decide +kernel
theorem dX6_wasSo_112 : decode cX6_wasSo 112 = .ok (.getfield 35, 3) := by decide +kernel
theorem dX6_wasSo_115 : decode cX6_wasSo 115 = .ok (.iload_n 1, 1) := by decide +kernel
theorem dX6_wasSo_116 : decode cX6_wasSo 116 = .ok (.iconst 1, 1) := by decide +kernel
theorem dX6_wasSo_117 : decode cX6_wasSo 117 = .ok (.iadd, 1) := by decide +kernel
theorem dX6_wasSo_118 : decode cX6_wasSo 118 = .ok (.aload_n 0, 1) := by decide +kernel
theorem dX6_wasSo_119 : decode cX6_wasSo 119 = .ok (.getfield 100, 3) := by decide +kernel
theorem dX6_wasSo_122 : decode cX6_wasSo 122 = .ok (.iastore, 1) := by decide +kernel
theorem dX6_wasSo_123 : decode cX6_wasSo 123 = .ok (.aload_n 0, 1) := by decide +kernel
theorem dX6_wasSo_124 : decode cX6_wasSo 124 = .ok (.getfield 35, 3) := by decide +kernel
theorem dX6_wasSo_127 : decode cX6_wasSo 127 = .ok (.iload_n 1, 1) := by decide +kernel
theorem dX6_wasSo_128 : decode cX6_wasSo 128 = .ok (.iconst 2, 1) := by decide +kernel
theorem dX6_wasSo_129 : decode cX6_wasSo 129 = .ok (.iadd, 1) := by decide +kernel
theorem dX6_wasSo_130 : decode cX6_wasSo 130 = .ok (.aload_n 0, 1) := by decide +kernel
theorem dX6_wasSo_131 : decode cX6_wasSo 131 = .ok (.getfield 103, 3) := by decide +kernel
theorem dX6_wasSo_134 : decode cX6_wasSo 134 = .ok (.iastore, 1) := by decide +kernel
theorem dX6_wasSo_135 : decode cX6_wasSo 135 = .ok (.aload_n 0, 1) := by decide +kernel
theorem dX6_wasSo_136 : decode cX6_wasSo 136 = .ok (.getfield 35, 3) := by decide +kernel
theorem dX6_wasSo_139 : decode cX6_wasSo 139 = .ok (.iload_n 1, 1) := by decide +kernel
theorem dX6_wasSo_140 : decode cX6_wasSo 140 = .ok (.iconst 3, 1) := by decide +kernel
theorem dX6_wasSo_141 : decode cX6_wasSo 141 = .ok (.iadd, 1) := by decide +kernel
theorem dX6_wasSo_142 : decode cX6_wasSo 142 = .ok (.aload_n 0, 1) := by decide +kernel
theorem dX6_wasSo_143 : decode cX6_wasSo 143 = .ok (.getfield 109, 3) := by decide +kernel
theorem dX6_wasSo_146 : decode cX6_wasSo 146 = .ok (.iastore, 1) := by decide +kernel
theorem dX6_wasSo_147 : decode cX6_wasSo 147 = .ok (.aload_n 0, 1) := by decide +kernel
theorem dX6_wasSo_148 : decode cX6_wasSo 148 = .ok (.getfield 35, 3) := by decide +kernel
theorem dX6_wasSo_151 : decode cX6_wasSo 151 = .ok (.iload_n 1, 1) := by decide +kernel
theorem dX6_wasSo_152 : decode cX6_wasSo 152 = .ok (.iconst 4, 1) := by decide +kernel
theorem dX6_wasSo_153 : decode cX6_wasSo 153 = .ok (.iadd, 1) := by decide +kernel
theorem dX6_wasSo_154 : decode cX6_wasSo 154 = .ok (.aload_n 0, 1) := by decide +kernel
theorem dX6_wasSo_155 : decode cX6_wasSo 155 = .ok (.getfield 106, 3) := by decide +kernel
theorem dX6_wasSo_158 : decode cX6_wasSo 158 = .ok (.iastore, 1) := by decide +kernel
theorem dX6_wasSo_159 : decode cX6_wasSo 159 = .ok (.aload_n 0, 1) := by decide +kernel
theorem dX6_wasSo_160 : decode cX6_wasSo 160 = .ok (.dup, 1) := by decide +kernel
theorem dX6_wasSo_161 : decode cX6_wasSo 161 = .ok (.getfield 94, 3) := by decide +kernel
theorem dX6_wasSo_164 : decode cX6_wasSo 164 = .ok (.iconst 1, 1) := by decide +kernel
theorem dX6_wasSo_165 : decode cX6_wasSo 165 = .ok (.iadd, 1) := by decide +kernel
theorem dX6_wasSo_166 : decode cX6_wasSo 166 = .ok (.putfield 94, 3) := by decide +kernel
theorem dX6_wasSo_169 : decode cX6_wasSo 169 = .ok (.iconst 0, 1) := by decide +kernel
theorem dX6_wasSo_170 : decode cX6_wasSo 170 = .ok (.ireturn, 1) := by decide +kernel
theorem dX6_goes_0 : decode cX6_goes 0 = .ok (.aload_n 0, 1) := by decide +kernel
theorem dX6_goes_1 : decode cX6_goes 1 = .ok (.iload_n 1, 1) := by decide +kernel
theorem dX6_goes_2 : decode cX6_goes 2 = .ok (.putfield 97, 3) := by decide +kernel
theorem dX6_goes_5 : decode cX6_goes 5 = .ok (.aload_n 0, 1) := by decide +kernel
theorem dX6_goes_6 : decode cX6_goes 6 = .ok (.dup, 1) := by decide +kernel
theorem dX6_goes_7 : decode cX6_goes 7 = .ok (.getfield 112, 3) := by decide +kernel
theorem dX6_goes_10 : decode cX6_goes 10 = .ok (.iconst 1, 1) := by decide +kernel
theorem dX6_goes_11 : decode cX6_goes 11 = .ok (.iadd, 1) := by decide +kernel
theorem dX6_goes_12 : decode cX6_goes 12 = .ok (.putfield 112, 3) := by decide +kernel
theorem dX6_goes_15 : decode cX6_goes 15 = .ok (.aload_n 0, 1) := by decide +kernel
theorem dX6_goes_16 : decode cX6_goes 16 = .ok (.getfield 32, 3) := by decide +kernel
theorem dX6_goes_19 : decode cX6_goes 19 = .ok (.aload_n 0, 1) := by decide +kernel
theorem dX6_goes_20 : decode cX6_goes 20 = .ok (.getfield 112, 3) := by decide +kernel
theorem dX6_goes_23 : decode cX6_goes 23 = .ok (.iload_n 1, 1) := by decide +kernel
theorem dX6_goes_24 : decode cX6_goes 24 = .ok (.iastore, 1) := by decide +kernel
theorem dX6_goes_25 : decode cX6_goes 25 = .ok (.return_, 1) := by decide +kernel
set_option maxRecDepth 20000 in
theorem ggX6_changesFace_X6_side : GoodIn wsX6_changesFace wsX6_side := goodIn_r _ [12, 4, 47, 48, 49, 50, 51, 52, 53, 54, 55, 56, 57, 58, 59, 60, 61, 62, 63, 64, 65, 66, 67, 68, 69, 70, 71, 72] (by decide +kernel) (by decide +kernel)
set_option maxRecDepth 20000 in
theorem gX6_changesFace_X6_side : GoodIn wsX6_changesFace (wsV RX6 60 RX6 yX6_side wsX6_side) := goodIn_app (goodIn_of _ (by decide +kernel)) ggX6_changesFace_X6_side
set_option maxRecDepth 20000 in
theorem ggX6_changesFace_X6_common : GoodIn wsX6_changesFace wsX6_common := goodIn_r _ [15] (by decide +kernel) (by decide +kernel)
set_option maxRecDepth 20000 in
theorem gX6_changesFace_X6_common : GoodIn wsX6_changesFace (va_wsS RX6 115 yX6_common wsX6_common) := goodIn_app (goodIn_of _ (by decide +kernel)) ggX6_changesFace_X6_common
set_option maxRecDepth 20000 in
theorem ggX6_changesFace_X6_firstOf : GoodIn wsX6_changesFace wsX6_firstOf := goodIn_r _ [19, 4, 20, 21, 22, 11, 23, 24, 25, 26, 27, 28, 29, 30, 31, 32, 33, 34, 35, 36, 37, 38, 39, 40, 41, 42, 43, 44, 45, 46, 8, 9, 10, 12, 47, 48, 49, 50, 51, 52, 53, 54, 55, 56, 57, 58, 59, 60, 61, 62, 63, 64, 65, 66, 67, 68, 69, 70, 71, 72] (by decide +kernel) (by decide +kernel)
set_option maxRecDepth 20000 in
theorem gX6_changesFace_X6_firstOf : GoodIn wsX6_changesFace (wsV RX6 71 RX6 yX6_firstOf wsX6_firstOf) := goodIn_app (goodIn_of _ (by decide +kernel)) ggX6_changesFace_X6_firstOf
theorem dX6_changesFace_0 : decode cX6_changesFace 0 = .ok (.aload_n 0, 1) := by decide +kernel
theorem dX6_changesFace_1 : decode cX6_changesFace 1 = .ok (.aload_n 0, 1) := by decide +kernel
theorem dX6_changesFace_2 : decode cX6_changesFace 2 = .ok (.getfield 100, 3) := by decide +kernel
theorem dX6_changesFace_5 : decode cX6_changesFace 5 = .ok (.iload_n 1, 1) := by decide +kernel
theorem dX6_changesFace_6 : decode cX6_changesFace 6 = .ok (.aload_n 0, 1) := by decide +kernel
theorem dX6_changesFace_7 : decode cX6_changesFace 7 = .ok (.getfield 97, 3) := by decide +kernel
theorem dX6_changesFace_10 : decode cX6_changesFace 10 = .ok (.invokevirtual 60, 3) := by decide +kernel
theorem dX6_changesFace_13 : decode cX6_changesFace 13 = .ok (.istore_n 2, 1) := by decide +kernel
theorem dX6_changesFace_14 : decode cX6_changesFace 14 = .ok (.aload_n 0, 1) := by decide +kernel
theorem dX6_changesFace_15 : decode cX6_changesFace 15 = .ok (.aload_n 0, 1) := by decide +kernel
theorem dX6_changesFace_16 : decode cX6_changesFace 16 = .ok (.getfield 100, 3) := by decide +kernel
theorem dX6_changesFace_19 : decode cX6_changesFace 19 = .ok (.iload_n 1, 1) := by decide +kernel
theorem dX6_changesFace_20 : decode cX6_changesFace 20 = .ok (.aload_n 0, 1) := by decide +kernel
theorem dX6_changesFace_21 : decode cX6_changesFace 21 = .ok (.getfield 103, 3) := by decide +kernel
theorem dX6_changesFace_24 : decode cX6_changesFace 24 = .ok (.invokevirtual 60, 3) := by decide +kernel
theorem dX6_changesFace_27 : decode cX6_changesFace 27 = .ok (.istore_n 3, 1) := by decide +kernel
theorem dX6_changesFace_28 : decode cX6_changesFace 28 = .ok (.iload_n 2, 1) := by decide +kernel
theorem dX6_changesFace_29 : decode cX6_changesFace 29 = .ok (.ifCond .lt 7, 3) := by decide +kernel
theorem dX6_changesFace_32 : decode cX6_changesFace 32 = .ok (.iconst 1, 1) := by decide +kernel
theorem dX6_changesFace_33 : decode cX6_changesFace 33 = .ok (.goto 4, 3) := by decide +kernel
theorem dX6_changesFace_36 : decode cX6_changesFace 36 = .ok (.iconst 0, 1) := by decide +kernel
theorem dX6_changesFace_37 : decode cX6_changesFace 37 = .ok (.iload_n 3, 1) := by decide +kernel
theorem dX6_changesFace_38 : decode cX6_changesFace 38 = .ok (.ifCond .lt 7, 3) := by decide +kernel
theorem dX6_changesFace_41 : decode cX6_changesFace 41 = .ok (.iconst 1, 1) := by decide +kernel
theorem dX6_changesFace_42 : decode cX6_changesFace 42 = .ok (.goto 4, 3) := by decide +kernel
theorem dX6_changesFace_45 : decode cX6_changesFace 45 = .ok (.iconst 0, 1) := by decide +kernel
theorem dX6_changesFace_46 : decode cX6_changesFace 46 = .ok (.if_icmp .ne 5, 3) := by decide +kernel
theorem dX6_changesFace_49 : decode cX6_changesFace 49 = .ok (.iconst 0, 1) := by decide +kernel
theorem dX6_changesFace_50 : decode cX6_changesFace 50 = .ok (.ireturn, 1) := by decide +kernel
theorem dX6_changesFace_51 : decode cX6_changesFace 51 = .ok (.aload_n 0, 1) := by decide +kernel
theorem dX6_changesFace_52 : decode cX6_changesFace 52 = .ok (.getfield 7, 3) := by decide +kernel
theorem dX6_changesFace_55 : decode cX6_changesFace 55 = .ok (.iconst 4, 1) := by decide +kernel
theorem dX6_changesFace_56 : decode cX6_changesFace 56 = .ok (.aload_n 0, 1) := by decide +kernel
theorem dX6_changesFace_57 : decode cX6_changesFace 57 = .ok (.getfield 103, 3) := by decide +kernel
theorem dX6_changesFace_60 : decode cX6_changesFace 60 = .ok (.iadd, 1) := by decide +kernel
theorem dX6_changesFace_61 : decode cX6_changesFace 61 = .ok (.iaload, 1) := by decide +kernel
theorem dX6_changesFace_62 : decode cX6_changesFace 62 = .ok (.aload_n 0, 1) := by decide +kernel
theorem dX6_changesFace_63 : decode cX6_changesFace 63 = .ok (.getfield 7, 3) := by decide +kernel
theorem dX6_changesFace_66 : decode cX6_changesFace 66 = .ok (.iconst 4, 1) := by decide +kernel
theorem dX6_changesFace_67 : decode cX6_changesFace 67 = .ok (.aload_n 0, 1) := by decide +kernel
theorem dX6_changesFace_68 : decode cX6_changesFace 68 = .ok (.getfield 97, 3) := by decide +kernel
theorem dX6_changesFace_71 : decode cX6_changesFace 71 = .ok (.iadd, 1) := by decide +kernel
theorem dX6_changesFace_72 : decode cX6_changesFace 72 = .ok (.iaload, 1) := by decide +kernel
theorem dX6_changesFace_73 : decode cX6_changesFace 73 = .ok (.isub, 1) := by decide +kernel
theorem dX6_changesFace_74 : decode cX6_changesFace 74 = .ok (.istore 4, 2) := by decide +kernel
theorem dX6_changesFace_76 : decode cX6_changesFace 76 = .ok (.aload_n 0, 1) := by decide +kernel
theorem dX6_changesFace_77 : decode cX6_changesFace 77 = .ok (.getfield 7, 3) := by decide +kernel
theorem dX6_changesFace_80 : decode cX6_changesFace 80 = .ok (.bipush 14, 2) := by decide +kernel
theorem dX6_changesFace_82 : decode cX6_changesFace 82 = .ok (.aload_n 0, 1) := by decide +kernel
theorem dX6_changesFace_83 : decode cX6_changesFace 83 = .ok (.getfield 103, 3) := by decide +kernel
theorem dX6_changesFace_86 : decode cX6_changesFace 86 = .ok (.iadd, 1) := by decide +kernel
theorem dX6_changesFace_87 : decode cX6_changesFace 87 = .ok (.iaload, 1) := by decide +kernel
theorem dX6_changesFace_88 : decode cX6_changesFace 88 = .ok (.aload_n 0, 1) := by decide +kernel
theorem dX6_changesFace_89 : decode cX6_changesFace 89 = .ok (.getfield 7, 3) := by decide +kernel
theorem dX6_changesFace_92 : decode cX6_changesFace 92 = .ok (.bipush 14, 2) := by decide +kernel
theorem dX6_changesFace_94 : decode cX6_changesFace 94 = .ok (.aload_n 0, 1) := by decide +kernel
theorem dX6_changesFace_95 : decode cX6_changesFace 95 = .ok (.getfield 97, 3) := by decide +kernel
theorem dX6_changesFace_98 : decode cX6_changesFace 98 = .ok (.iadd, 1) := by decide +kernel
theorem dX6_changesFace_99 : decode cX6_changesFace 99 = .ok (.iaload, 1) := by decide +kernel
theorem dX6_changesFace_100 : decode cX6_changesFace 100 = .ok (.isub, 1) := by decide +kernel
theorem dX6_changesFace_101 : decode cX6_changesFace 101 = .ok (.istore 5, 2) := by decide +kernel
theorem dX6_changesFace_103 : decode cX6_changesFace 103 = .ok (.aload_n 0, 1) := by decide +kernel
theorem dX6_changesFace_104 : decode cX6_changesFace 104 = .ok (.getfield 7, 3) := by decide +kernel
theorem dX6_changesFace_107 : decode cX6_changesFace 107 = .ok (.iconst 4, 1) := by decide +kernel
theorem dX6_changesFace_108 : decode cX6_changesFace 108 = .ok (.aload_n 0, 1) := by decide +kernel
theorem dX6_changesFace_109 : decode cX6_changesFace 109 = .ok (.getfield 97, 3) := by decide +kernel
theorem dX6_changesFace_112 : decode cX6_changesFace 112 = .ok (.iadd, 1) := by decide +kernel
theorem dX6_changesFace_113 : decode cX6_changesFace 113 = .ok (.iaload, 1) := by decide +kernel
theorem dX6_changesFace_114 : decode cX6_changesFace 114 = .ok (.aload_n 0, 1) := by decide +kernel
theorem dX6_changesFace_115 : decode cX6_changesFace 115 = .ok (.getfield 7, 3) := by decide +kernel
theorem dX6_changesFace_118 : decode cX6_changesFace 118 = .ok (.iconst 4, 1) := by decide +kernel
theorem dX6_changesFace_119 : decode cX6_changesFace 119 = .ok (.aload_n 0, 1) := by decide +kernel
theorem dX6_changesFace_120 : decode cX6_changesFace 120 = .ok (.getfield 100, 3) := by decide +kernel
theorem dX6_changesFace_123 : decode cX6_changesFace 123 = .ok (.iadd, 1) := by decide +kernel
theorem dX6_changesFace_124 : decode cX6_changesFace 124 = .ok (.iaload, 1) := by decide +kernel
theorem dX6_changesFace_125 : decode cX6_changesFace 125 = .ok (.isub, 1) := by decide +kernel
theorem dX6_changesFace_126 : decode cX6_changesFace 126 = .ok (.iload 5, 2) := by decide +kernel
theorem dX6_changesFace_128 : decode cX6_changesFace 128 = .ok (.imul, 1) := by decide +kernel
theorem dX6_changesFace_129 : decode cX6_changesFace 129 = .ok (.aload_n 0, 1) := by decide +kernel
theorem dX6_changesFace_130 : decode cX6_changesFace 130 = .ok (.getfield 7, 3) := by decide +kernel
theorem dX6_changesFace_133 : decode cX6_changesFace 133 = .ok (.bipush 14, 2) := by decide +kernel
theorem dX6_changesFace_135 : decode cX6_changesFace 135 = .ok (.aload_n 0, 1) := by decide +kernel
theorem dX6_changesFace_136 : decode cX6_changesFace 136 = .ok (.getfield 97, 3) := by decide +kernel
theorem dX6_changesFace_139 : decode cX6_changesFace 139 = .ok (.iadd, 1) := by decide +kernel
theorem dX6_changesFace_140 : decode cX6_changesFace 140 = .ok (.iaload, 1) := by decide +kernel
theorem dX6_changesFace_141 : decode cX6_changesFace 141 = .ok (.aload_n 0, 1) := by decide +kernel
theorem dX6_changesFace_142 : decode cX6_changesFace 142 = .ok (.getfield 7, 3) := by decide +kernel
theorem dX6_changesFace_145 : decode cX6_changesFace 145 = .ok (.bipush 14, 2) := by decide +kernel
theorem dX6_changesFace_147 : decode cX6_changesFace 147 = .ok (.aload_n 0, 1) := by decide +kernel
theorem dX6_changesFace_148 : decode cX6_changesFace 148 = .ok (.getfield 100, 3) := by decide +kernel
theorem dX6_changesFace_151 : decode cX6_changesFace 151 = .ok (.iadd, 1) := by decide +kernel
theorem dX6_changesFace_152 : decode cX6_changesFace 152 = .ok (.iaload, 1) := by decide +kernel
theorem dX6_changesFace_153 : decode cX6_changesFace 153 = .ok (.isub, 1) := by decide +kernel
theorem dX6_changesFace_154 : decode cX6_changesFace 154 = .ok (.iload 4, 2) := by decide +kernel
theorem dX6_changesFace_156 : decode cX6_changesFace 156 = .ok (.imul, 1) := by decide +kernel
theorem dX6_changesFace_157 : decode cX6_changesFace 157 = .ok (.isub, 1) := by decide +kernel
theorem dX6_changesFace_158 : decode cX6_changesFace 158 = .ok (.istore 6, 2) := by decide +kernel
theorem dX6_changesFace_160 : decode cX6_changesFace 160 = .ok (.aload_n 0, 1) := by decide +kernel
theorem dX6_changesFace_161 : decode cX6_changesFace 161 = .ok (.getfield 7, 3) := by decide +kernel
theorem dX6_changesFace_164 : decode cX6_changesFace 164 = .ok (.iconst 4, 1) := by decide +kernel
theorem dX6_changesFace_165 : decode cX6_changesFace 165 = .ok (.iload_n 1, 1) := by decide +kernel
theorem dX6_changesFace_166 : decode cX6_changesFace 166 = .ok (.iadd, 1) := by decide +kernel
theorem dX6_changesFace_167 : decode cX6_changesFace 167 = .ok (.iaload, 1) := by decide +kernel
theorem dX6_changesFace_168 : decode cX6_changesFace 168 = .ok (.aload_n 0, 1) := by decide +kernel
theorem dX6_changesFace_169 : decode cX6_changesFace 169 = .ok (.getfield 7, 3) := by decide +kernel
theorem dX6_changesFace_172 : decode cX6_changesFace 172 = .ok (.iconst 4, 1) := by decide +kernel
theorem dX6_changesFace_173 : decode cX6_changesFace 173 = .ok (.aload_n 0, 1) := by decide +kernel
theorem dX6_changesFace_174 : decode cX6_changesFace 174 = .ok (.getfield 100, 3) := by decide +kernel
theorem dX6_changesFace_177 : decode cX6_changesFace 177 = .ok (.iadd, 1) := by decide +kernel
theorem dX6_changesFace_178 : decode cX6_changesFace 178 = .ok (.iaload, 1) := by decide +kernel
theorem dX6_changesFace_179 : decode cX6_changesFace 179 = .ok (.isub, 1) := by decide +kernel
theorem dX6_changesFace_180 : decode cX6_changesFace 180 = .ok (.iload 5, 2) := by decide +kernel
theorem dX6_changesFace_182 : decode cX6_changesFace 182 = .ok (.imul, 1) := by decide +kernel
theorem dX6_changesFace_183 : decode cX6_changesFace 183 = .ok (.aload_n 0, 1) := by decide +kernel
theorem dX6_changesFace_184 : decode cX6_changesFace 184 = .ok (.getfield 7, 3) := by decide +kernel
theorem dX6_changesFace_187 : decode cX6_changesFace 187 = .ok (.bipush 14, 2) := by decide +kernel
theorem dX6_changesFace_189 : decode cX6_changesFace 189 = .ok (.iload_n 1, 1) := by decide +kernel
theorem dX6_changesFace_190 : decode cX6_changesFace 190 = .ok (.iadd, 1) := by decide +kernel
theorem dX6_changesFace_191 : decode cX6_changesFace 191 = .ok (.iaload, 1) := by decide +kernel
theorem dX6_changesFace_192 : decode cX6_changesFace 192 = .ok (.aload_n 0, 1) := by decide +kernel
theorem dX6_changesFace_193 : decode cX6_changesFace 193 = .ok (.getfield 7, 3) := by decide +kernel
theorem dX6_changesFace_196 : decode cX6_changesFace 196 = .ok (.bipush 14, 2) := by decide +kernel
theorem dX6_changesFace_198 : decode cX6_changesFace 198 = .ok (.aload_n 0, 1) := by decide +kernel
theorem dX6_changesFace_199 : decode cX6_changesFace 199 = .ok (.getfield 100, 3) := by decide +kernel
theorem dX6_changesFace_202 : decode cX6_changesFace 202 = .ok (.iadd, 1) := by decide +kernel
theorem dX6_changesFace_203 : decode cX6_changesFace 203 = .ok (.iaload, 1) := by decide +kernel
theorem dX6_changesFace_204 : decode cX6_changesFace 204 = .ok (.isub, 1) := by decide +kernel
theorem dX6_changesFace_205 : decode cX6_changesFace 205 = .ok (.iload 4, 2) := by decide +kernel
theorem dX6_changesFace_207 : decode cX6_changesFace 207 = .ok (.imul, 1) := by decide +kernel
theorem dX6_changesFace_208 : decode cX6_changesFace 208 = .ok (.isub, 1) := by decide +kernel
theorem dX6_changesFace_209 : decode cX6_changesFace 209 = .ok (.istore 7, 2) := by decide +kernel
theorem dX6_changesFace_211 : decode cX6_changesFace 211 = .ok (.iload 7, 2) := by decide +kernel
theorem dX6_changesFace_213 : decode cX6_changesFace 213 = .ok (.ifCond .ge 13, 3) := by decide +kernel
theorem dX6_changesFace_216 : decode cX6_changesFace 216 = .ok (.iload 6, 2) := by decide +kernel
theorem dX6_changesFace_218 : decode cX6_changesFace 218 = .ok (.ineg, 1) := by decide +kernel
theorem dX6_changesFace_219 : decode cX6_changesFace 219 = .ok (.istore 6, 2) := by decide +kernel
theorem dX6_changesFace_221 : decode cX6_changesFace 221 = .ok (.iload 7, 2) := by decide +kernel
theorem dX6_changesFace_223 : decode cX6_changesFace 223 = .ok (.ineg, 1) := by decide +kernel
theorem dX6_changesFace_224 : decode cX6_changesFace 224 = .ok (.istore 7, 2) := by decide +kernel
theorem dX6_changesFace_226 : decode cX6_changesFace 226 = .ok (.iload 6, 2) := by decide +kernel
theorem dX6_changesFace_228 : decode cX6_changesFace 228 = .ok (.iload 7, 2) := by decide +kernel
theorem dX6_changesFace_230 : decode cX6_changesFace 230 = .ok (.if_icmp .ge 25, 3) := by decide +kernel
theorem dX6_changesFace_233 : decode cX6_changesFace 233 = .ok (.iload 6, 2) := by decide +kernel
theorem dX6_changesFace_235 : decode cX6_changesFace 235 = .ok (.i2l, 1) := by decide +kernel
theorem dX6_changesFace_236 : decode cX6_changesFace 236 = .ok (.aload_n 0, 1) := by decide +kernel
theorem dX6_changesFace_237 : decode cX6_changesFace 237 = .ok (.getfield 106, 3) := by decide +kernel
theorem dX6_changesFace_240 : decode cX6_changesFace 240 = .ok (.i2l, 1) := by decide +kernel
theorem dX6_changesFace_241 : decode cX6_changesFace 241 = .ok (.lmul, 1) := by decide +kernel
theorem dX6_changesFace_242 : decode cX6_changesFace 242 = .ok (.aload_n 0, 1) := by decide +kernel
theorem dX6_changesFace_243 : decode cX6_changesFace 243 = .ok (.getfield 109, 3) := by decide +kernel
theorem dX6_changesFace_246 : decode cX6_changesFace 246 = .ok (.i2l, 1) := by decide +kernel
theorem dX6_changesFace_247 : decode cX6_changesFace 247 = .ok (.iload 7, 2) := by decide +kernel
theorem dX6_changesFace_249 : decode cX6_changesFace 249 = .ok (.i2l, 1) := by decide +kernel
theorem dX6_changesFace_250 : decode cX6_changesFace 250 = .ok (.lmul, 1) := by decide +kernel
theorem dX6_changesFace_251 : decode cX6_changesFace 251 = .ok (.lcmp, 1) := by decide +kernel
theorem dX6_changesFace_252 : decode cX6_changesFace 252 = .ok (.ifCond .gt 5, 3) := by decide +kernel
theorem dX6_changesFace_255 : decode cX6_changesFace 255 = .ok (.iconst 0, 1) := by decide +kernel
theorem dX6_changesFace_256 : decode cX6_changesFace 256 = .ok (.ireturn, 1) := by decide +kernel
theorem dX6_changesFace_257 : decode cX6_changesFace 257 = .ok (.iload 6, 2) := by decide +kernel
theorem dX6_changesFace_259 : decode cX6_changesFace 259 = .ok (.iload 7, 2) := by decide +kernel
theorem dX6_changesFace_261 : decode cX6_changesFace 261 = .ok (.invokestatic 115, 3) := by decide +kernel
theorem dX6_changesFace_264 : decode cX6_changesFace 264 = .ok (.istore 8, 2) := by decide +kernel
theorem dX6_changesFace_266 : decode cX6_changesFace 266 = .ok (.aload_n 0, 1) := by decide +kernel
theorem dX6_changesFace_267 : decode cX6_changesFace 267 = .ok (.iload 6, 2) := by decide +kernel
theorem dX6_changesFace_269 : decode cX6_changesFace 269 = .ok (.iload 8, 2) := by decide +kernel
theorem dX6_changesFace_271 : decode cX6_changesFace 271 = .ok (.idiv, 1) := by decide +kernel
theorem dX6_changesFace_272 : decode cX6_changesFace 272 = .ok (.putfield 109, 3) := by decide +kernel
theorem dX6_changesFace_275 : decode cX6_changesFace 275 = .ok (.aload_n 0, 1) := by decide +kernel
theorem dX6_changesFace_276 : decode cX6_changesFace 276 = .ok (.iload 7, 2) := by decide +kernel
theorem dX6_changesFace_278 : decode cX6_changesFace 278 = .ok (.iload 8, 2) := by decide +kernel
theorem dX6_changesFace_280 : decode cX6_changesFace 280 = .ok (.idiv, 1) := by decide +kernel
theorem dX6_changesFace_281 : decode cX6_changesFace 281 = .ok (.putfield 106, 3) := by decide +kernel
theorem dX6_changesFace_284 : decode cX6_changesFace 284 = .ok (.aload_n 0, 1) := by decide +kernel
theorem dX6_changesFace_285 : decode cX6_changesFace 285 = .ok (.aload_n 0, 1) := by decide +kernel
theorem dX6_changesFace_286 : decode cX6_changesFace 286 = .ok (.getfield 97, 3) := by decide +kernel
theorem dX6_changesFace_289 : decode cX6_changesFace 289 = .ok (.aload_n 0, 1) := by decide +kernel
theorem dX6_changesFace_290 : decode cX6_changesFace 290 = .ok (.getfield 103, 3) := by decide +kernel
theorem dX6_changesFace_293 : decode cX6_changesFace 293 = .ok (.aload_n 0, 1) := by decide +kernel
theorem dX6_changesFace_294 : decode cX6_changesFace 294 = .ok (.getfield 103, 3) := by decide +kernel
theorem dX6_changesFace_297 : decode cX6_changesFace 297 = .ok (.invokevirtual 71, 3) := by decide +kernel
theorem dX6_changesFace_300 : decode cX6_changesFace 300 = .ok (.istore 9, 2) := by decide +kernel
theorem dX6_changesFace_302 : decode cX6_changesFace 302 = .ok (.aload_n 0, 1) := by decide +kernel
theorem dX6_changesFace_303 : decode cX6_changesFace 303 = .ok (.iload 9, 2) := by decide +kernel
theorem dX6_changesFace_305 : decode cX6_changesFace 305 = .ok (.iconst (-1), 1) := by decide +kernel
theorem dX6_changesFace_306 : decode cX6_changesFace 306 = .ok (.if_icmp .ne 10, 3) := by decide +kernel
theorem dX6_changesFace_309 : decode cX6_changesFace 309 = .ok (.aload_n 0, 1) := by decide +kernel
theorem dX6_changesFace_310 : decode cX6_changesFace 310 = .ok (.getfield 103, 3) := by decide +kernel
theorem dX6_changesFace_313 : decode cX6_changesFace 313 = .ok (.goto 5, 3) := by decide +kernel
theorem dX6_changesFace_316 : decode cX6_changesFace 316 = .ok (.iload 9, 2) := by decide +kernel
theorem dX6_changesFace_318 : decode cX6_changesFace 318 = .ok (.putfield 103, 3) := by decide +kernel
theorem dX6_changesFace_321 : decode cX6_changesFace 321 = .ok (.aload_n 0, 1) := by decide +kernel
theorem dX6_changesFace_322 : decode cX6_changesFace 322 = .ok (.dup, 1) := by decide +kernel
theorem dX6_changesFace_323 : decode cX6_changesFace 323 = .ok (.getfield 118, 3) := by decide +kernel
theorem dX6_changesFace_326 : decode cX6_changesFace 326 = .ok (.iconst 1, 1) := by decide +kernel
theorem dX6_changesFace_327 : decode cX6_changesFace 327 = .ok (.iadd, 1) := by decide +kernel
theorem dX6_changesFace_328 : decode cX6_changesFace 328 = .ok (.putfield 118, 3) := by decide +kernel
theorem dX6_changesFace_331 : decode cX6_changesFace 331 = .ok (.iconst 1, 1) := by decide +kernel
theorem dX6_changesFace_332 : decode cX6_changesFace 332 = .ok (.ireturn, 1) := by decide +kernel
theorem dX6_common_0 : decode cX6_common 0 = .ok (.iload_n 0, 1) := by decide +kernel
theorem dX6_common_1 : decode cX6_common 1 = .ok (.ifCond .ge 8, 3) := by decide +kernel
theorem dX6_common_4 : decode cX6_common 4 = .ok (.iload_n 0, 1) := by decide +kernel
theorem dX6_common_5 : decode cX6_common 5 = .ok (.ineg, 1) := by decide +kernel
theorem dX6_common_6 : decode cX6_common 6 = .ok (.goto 4, 3) := by decide +kernel
theorem dX6_common_9 : decode cX6_common 9 = .ok (.iload_n 0, 1) := by decide +kernel
theorem dX6_common_10 : decode cX6_common 10 = .ok (.istore_n 2, 1) := by decide +kernel
theorem dX6_common_11 : decode cX6_common 11 = .ok (.iload_n 1, 1) := by decide +kernel
theorem dX6_common_12 : decode cX6_common 12 = .ok (.istore_n 3, 1) := by decide +kernel
theorem dX6_common_13 : decode cX6_common 13 = .ok (.iload_n 3, 1) := by decide +kernel
theorem dX6_common_14 : decode cX6_common 14 = .ok (.ifCond .eq 16, 3) := by decide +kernel
theorem dX6_common_17 : decode cX6_common 17 = .ok (.iload_n 2, 1) := by decide +kernel
theorem dX6_common_18 : decode cX6_common 18 = .ok (.iload_n 3, 1) := by decide +kernel
theorem dX6_common_19 : decode cX6_common 19 = .ok (.irem, 1) := by decide +kernel
theorem dX6_common_20 : decode cX6_common 20 = .ok (.istore 4, 2) := by decide +kernel
theorem dX6_common_22 : decode cX6_common 22 = .ok (.iload_n 3, 1) := by decide +kernel
theorem dX6_common_23 : decode cX6_common 23 = .ok (.istore_n 2, 1) := by decide +kernel
theorem dX6_common_24 : decode cX6_common 24 = .ok (.iload 4, 2) := by decide +kernel
theorem dX6_common_26 : decode cX6_common 26 = .ok (.istore_n 3, 1) := by decide +kernel
theorem dX6_common_27 : decode cX6_common 27 = .ok (.goto (-14), 3) := by decide +kernel
theorem dX6_common_30 : decode cX6_common 30 = .ok (.iload_n 2, 1) := by decide +kernel
theorem dX6_common_31 : decode cX6_common 31 = .ok (.ireturn, 1) := by decide +kernel
set_option maxRecDepth 20000 in
theorem ggX6_walks_X6_nearerOf : GoodIn wsX6_walks wsX6_nearerOf := goodIn_r _ [17, 18, 19, 20, 21, 16, 22, 23, 24, 25, 26, 27, 28, 29, 30, 31, 32, 33, 74, 75, 76, 77, 78, 79, 80, 81, 82, 83, 84, 85, 86, 87, 88, 89, 90, 91, 92, 93, 94, 95, 96, 97, 98, 99] (by decide +kernel) (by decide +kernel)
set_option maxRecDepth 20000 in
theorem gX6_walks_X6_nearerOf : GoodIn wsX6_walks (wsV RX6 131 RX6 yX6_nearerOf wsX6_nearerOf) := goodIn_app (goodIn_of _ (by decide +kernel)) ggX6_walks_X6_nearerOf
set_option maxRecDepth 20000 in
theorem ggX6_walks_X6_goes : GoodIn wsX6_walks wsX6_goes := goodIn_r _ [37, 8, 1, 2, 74, 75, 76, 77, 78, 79, 80, 81, 82, 83, 84, 85, 86, 87, 88, 89, 90, 91, 92, 93, 94, 95, 96, 97, 98, 99] (by decide +kernel) (by decide +kernel)
set_option maxRecDepth 20000 in
theorem gX6_walks_X6_goes : GoodIn wsX6_walks (wsV RX6 134 RX6 yX6_goes wsX6_goes) := goodIn_app (goodIn_of _ (by decide +kernel)) ggX6_walks_X6_goes
set_option maxRecDepth 20000 in
theorem ggX6_walks_X6_firstOf : GoodIn wsX6_walks wsX6_firstOf := goodIn_r _ [41, 18, 42, 43, 44, 16, 45, 19, 20, 21, 22, 23, 24, 25, 26, 27, 28, 29, 30, 31, 32, 33, 46, 47, 48, 49, 50, 51, 52, 53, 54, 55, 56, 57, 74, 75, 76, 77, 78, 79, 80, 81, 82, 83, 84, 85, 86, 87, 88, 89, 90, 91, 92, 93, 94, 95, 96, 97, 98, 99] (by decide +kernel) (by decide +kernel)
set_option maxRecDepth 20000 in
theorem gX6_walks_X6_firstOf : GoodIn wsX6_walks (wsV RX6 71 RX6 yX6_firstOf wsX6_firstOf) := goodIn_app (goodIn_of _ (by decide +kernel)) ggX6_walks_X6_firstOf
set_option maxRecDepth 20000 in
theorem ggX6_walks_X6_wasSo : GoodIn wsX6_walks wsX6_wasSo := goodIn_r _ [61, 7, 62, 8, 9, 12, 11, 10, 74, 75, 76, 77, 78, 79, 80, 81, 82, 83, 84, 85, 86, 87, 88, 89, 90, 91, 92, 93, 94, 95, 96, 97, 98, 99] (by decide +kernel) (by decide +kernel)
set_option maxRecDepth 20000 in
theorem gX6_walks_X6_wasSo : GoodIn wsX6_walks (wsV RX6 138 RX6 yX6_wasSo wsX6_wasSo) := goodIn_app (goodIn_of _ (by decide +kernel)) ggX6_walks_X6_wasSo
set_option maxRecDepth 20000 in
theorem ggX6_walks_X6_changesFace : GoodIn wsX6_walks wsX6_changesFace := goodIn_r _ [66, 9, 8, 12, 18, 11, 10, 5, 54, 55, 56, 16, 57, 67, 68, 69, 38, 39, 40, 41, 42, 43, 44, 45, 19, 20, 21, 22, 23, 24, 25, 26, 27, 28, 29, 30, 31, 32, 33, 46, 47, 48, 49, 50, 51, 52, 53, 74, 75, 76, 77, 78, 79, 80, 81, 82, 83, 84, 85, 86, 87, 88, 89, 90, 91, 92, 93, 94, 95, 96, 97, 98, 99] (by decide +kernel) (by decide +kernel)
set_option maxRecDepth 20000 in
theorem gX6_walks_X6_changesFace : GoodIn wsX6_walks (wsV RX6 142 RX6 yX6_changesFace wsX6_changesFace) := goodIn_app (goodIn_of _ (by decide +kernel)) ggX6_walks_X6_changesFace
set_option maxRecDepth 20000 in
theorem ggX6_walks_X6_farOf : GoodIn wsX6_walks wsX6_farOf := goodIn_r _ [33, 18, 74, 75, 76, 77, 78, 79, 80, 81, 82, 83, 84, 85, 86, 87, 88, 89, 90, 91, 92, 93, 94, 95, 96, 97, 98, 99] (by decide +kernel) (by decide +kernel)
set_option maxRecDepth 20000 in
theorem gX6_walks_X6_farOf : GoodIn wsX6_walks (wsV RX6 50 RX6 yX6_farOf wsX6_farOf) := goodIn_app (goodIn_of _ (by decide +kernel)) ggX6_walks_X6_farOf
set_option maxRecDepth 20000 in
theorem ggX6_walks_X6_turned : GoodIn wsX6_walks wsX6_turned := goodIn_r _ [73, 38, 39, 40, 16, 41, 18, 42, 43, 44, 45, 19, 20, 21, 22, 23, 24, 25, 26, 27, 28, 29, 30, 31, 32, 33, 46, 47, 48, 49, 50, 51, 52, 53, 54, 55, 56, 57, 74, 75, 76, 77, 78, 79, 80, 81, 82, 83, 84, 85, 86, 87, 88, 89, 90, 91, 92, 93, 94, 95, 96, 97, 98, 99] (by decide +kernel) (by decide +kernel)
set_option maxRecDepth 20000 in
theorem gX6_walks_X6_turned : GoodIn wsX6_walks (wsV RX6 74 RX6 yX6_turned wsX6_turned) := goodIn_app (goodIn_of _ (by decide +kernel)) ggX6_walks_X6_turned
theorem dX6_walks_0 : decode cX6_walks 0 = .ok (.aload_n 0, 1) := by decide +kernel
theorem dX6_walks_1 : decode cX6_walks 1 = .ok (.iconst 0, 1) := by decide +kernel
theorem dX6_walks_2 : decode cX6_walks 2 = .ok (.putfield 112, 3) := by decide +kernel
theorem dX6_walks_5 : decode cX6_walks 5 = .ok (.aload_n 0, 1) := by decide +kernel
theorem dX6_walks_6 : decode cX6_walks 6 = .ok (.getfield 32, 3) := by decide +kernel
theorem dX6_walks_9 : decode cX6_walks 9 = .ok (.iconst 0, 1) := by decide +kernel
theorem dX6_walks_10 : decode cX6_walks 10 = .ok (.iload_n 1, 1) := by decide +kernel
theorem dX6_walks_11 : decode cX6_walks 11 = .ok (.iastore, 1) := by decide +kernel
theorem dX6_walks_12 : decode cX6_walks 12 = .ok (.aload_n 0, 1) := by decide +kernel
theorem dX6_walks_13 : decode cX6_walks 13 = .ok (.iconst 0, 1) := by decide +kernel
theorem dX6_walks_14 : decode cX6_walks 14 = .ok (.putfield 121, 3) := by decide +kernel
theorem dX6_walks_17 : decode cX6_walks 17 = .ok (.aload_n 0, 1) := by decide +kernel
theorem dX6_walks_18 : decode cX6_walks 18 = .ok (.iconst 0, 1) := by decide +kernel
theorem dX6_walks_19 : decode cX6_walks 19 = .ok (.putfield 125, 3) := by decide +kernel
theorem dX6_walks_22 : decode cX6_walks 22 = .ok (.aload_n 0, 1) := by decide +kernel
theorem dX6_walks_23 : decode cX6_walks 23 = .ok (.iconst 0, 1) := by decide +kernel
theorem dX6_walks_24 : decode cX6_walks 24 = .ok (.putfield 118, 3) := by decide +kernel
theorem dX6_walks_27 : decode cX6_walks 27 = .ok (.aload_n 0, 1) := by decide +kernel
theorem dX6_walks_28 : decode cX6_walks 28 = .ok (.iconst 0, 1) := by decide +kernel
theorem dX6_walks_29 : decode cX6_walks 29 = .ok (.putfield 128, 3) := by decide +kernel
theorem dX6_walks_32 : decode cX6_walks 32 = .ok (.aload_n 0, 1) := by decide +kernel
theorem dX6_walks_33 : decode cX6_walks 33 = .ok (.iconst 0, 1) := by decide +kernel
theorem dX6_walks_34 : decode cX6_walks 34 = .ok (.putfield 94, 3) := by decide +kernel
theorem dX6_walks_37 : decode cX6_walks 37 = .ok (.aload_n 0, 1) := by decide +kernel
theorem dX6_walks_38 : decode cX6_walks 38 = .ok (.iload_n 1, 1) := by decide +kernel
theorem dX6_walks_39 : decode cX6_walks 39 = .ok (.putfield 97, 3) := by decide +kernel
theorem dX6_walks_42 : decode cX6_walks 42 = .ok (.iconst 1, 1) := by decide +kernel
theorem dX6_walks_43 : decode cX6_walks 43 = .ok (.istore_n 3, 1) := by decide +kernel
theorem dX6_walks_44 : decode cX6_walks 44 = .ok (.aload_n 0, 1) := by decide +kernel
theorem dX6_walks_45 : decode cX6_walks 45 = .ok (.getfield 97, 3) := by decide +kernel
theorem dX6_walks_48 : decode cX6_walks 48 = .ok (.iload_n 2, 1) := by decide +kernel
theorem dX6_walks_49 : decode cX6_walks 49 = .ok (.if_icmp .eq 213, 3) := by decide +kernel
theorem dX6_walks_52 : decode cX6_walks 52 = .ok (.aload_n 0, 1) := by decide +kernel
theorem dX6_walks_53 : decode cX6_walks 53 = .ok (.getfield 121, 3) := by decide +kernel
theorem dX6_walks_56 : decode cX6_walks 56 = .ok (.ifCond .ne 206, 3) := by decide +kernel
theorem dX6_walks_59 : decode cX6_walks 59 = .ok (.aload_n 0, 1) := by decide +kernel
theorem dX6_walks_60 : decode cX6_walks 60 = .ok (.getfield 112, 3) := by decide +kernel
theorem dX6_walks_63 : decode cX6_walks 63 = .ok (.sipush 200, 3) := by decide +kernel
theorem dX6_walks_66 : decode cX6_walks 66 = .ok (.if_icmp .ne 11, 3) := by decide +kernel
theorem dX6_walks_69 : decode cX6_walks 69 = .ok (.aload_n 0, 1) := by decide +kernel
theorem dX6_walks_70 : decode cX6_walks 70 = .ok (.iconst 1, 1) := by decide +kernel
theorem dX6_walks_71 : decode cX6_walks 71 = .ok (.putfield 121, 3) := by decide +kernel
theorem dX6_walks_74 : decode cX6_walks 74 = .ok (.goto (-30), 3) := by decide +kernel
theorem dX6_walks_77 : decode cX6_walks 77 = .ok (.iload_n 3, 1) := by decide +kernel
theorem dX6_walks_78 : decode cX6_walks 78 = .ok (.ifCond .eq 93, 3) := by decide +kernel
theorem dX6_walks_81 : decode cX6_walks 81 = .ok (.aload_n 0, 1) := by decide +kernel
theorem dX6_walks_82 : decode cX6_walks 82 = .ok (.aload_n 0, 1) := by decide +kernel
theorem dX6_walks_83 : decode cX6_walks 83 = .ok (.getfield 97, 3) := by decide +kernel
theorem dX6_walks_86 : decode cX6_walks 86 = .ok (.iload_n 2, 1) := by decide +kernel
theorem dX6_walks_87 : decode cX6_walks 87 = .ok (.invokevirtual 131, 3) := by decide +kernel
theorem dX6_walks_90 : decode cX6_walks 90 = .ok (.istore 4, 2) := by decide +kernel
theorem dX6_walks_92 : decode cX6_walks 92 = .ok (.iload 4, 2) := by decide +kernel
theorem dX6_walks_94 : decode cX6_walks 94 = .ok (.iconst (-1), 1) := by decide +kernel
theorem dX6_walks_95 : decode cX6_walks 95 = .ok (.if_icmp .eq 12, 3) := by decide +kernel
theorem dX6_walks_98 : decode cX6_walks 98 = .ok (.aload_n 0, 1) := by decide +kernel
theorem dX6_walks_99 : decode cX6_walks 99 = .ok (.iload 4, 2) := by decide +kernel
theorem dX6_walks_101 : decode cX6_walks 101 = .ok (.invokevirtual 134, 3) := by decide +kernel
theorem dX6_walks_104 : decode cX6_walks 104 = .ok (.goto (-60), 3) := by decide +kernel
theorem dX6_walks_107 : decode cX6_walks 107 = .ok (.iconst 0, 1) := by decide +kernel
theorem dX6_walks_108 : decode cX6_walks 108 = .ok (.istore_n 3, 1) := by decide +kernel
theorem dX6_walks_109 : decode cX6_walks 109 = .ok (.aload_n 0, 1) := by decide +kernel
theorem dX6_walks_110 : decode cX6_walks 110 = .ok (.dup, 1) := by decide +kernel
theorem dX6_walks_111 : decode cX6_walks 111 = .ok (.getfield 125, 3) := by decide +kernel
theorem dX6_walks_114 : decode cX6_walks 114 = .ok (.iconst 1, 1) := by decide +kernel
theorem dX6_walks_115 : decode cX6_walks 115 = .ok (.iadd, 1) := by decide +kernel
theorem dX6_walks_116 : decode cX6_walks 116 = .ok (.putfield 125, 3) := by decide +kernel
theorem dX6_walks_119 : decode cX6_walks 119 = .ok (.aload_n 0, 1) := by decide +kernel
theorem dX6_walks_120 : decode cX6_walks 120 = .ok (.aload_n 0, 1) := by decide +kernel
theorem dX6_walks_121 : decode cX6_walks 121 = .ok (.getfield 97, 3) := by decide +kernel
theorem dX6_walks_124 : decode cX6_walks 124 = .ok (.putfield 100, 3) := by decide +kernel
theorem dX6_walks_127 : decode cX6_walks 127 = .ok (.aload_n 0, 1) := by decide +kernel
theorem dX6_walks_128 : decode cX6_walks 128 = .ok (.iconst 0, 1) := by decide +kernel
theorem dX6_walks_129 : decode cX6_walks 129 = .ok (.putfield 109, 3) := by decide +kernel
theorem dX6_walks_132 : decode cX6_walks 132 = .ok (.aload_n 0, 1) := by decide +kernel
theorem dX6_walks_133 : decode cX6_walks 133 = .ok (.iconst 1, 1) := by decide +kernel
theorem dX6_walks_134 : decode cX6_walks 134 = .ok (.putfield 106, 3) := by decide +kernel
theorem dX6_walks_137 : decode cX6_walks 137 = .ok (.aload_n 0, 1) := by decide +kernel
theorem dX6_walks_138 : decode cX6_walks 138 = .ok (.aload_n 0, 1) := by decide +kernel
theorem dX6_walks_139 : decode cX6_walks 139 = .ok (.aload_n 0, 1) := by decide +kernel
theorem dX6_walks_140 : decode cX6_walks 140 = .ok (.getfield 97, 3) := by decide +kernel
theorem dX6_walks_143 : decode cX6_walks 143 = .ok (.iload_n 2, 1) := by decide +kernel
theorem dX6_walks_144 : decode cX6_walks 144 = .ok (.iconst (-1), 1) := by decide +kernel
theorem dX6_walks_145 : decode cX6_walks 145 = .ok (.invokevirtual 71, 3) := by decide +kernel
theorem dX6_walks_148 : decode cX6_walks 148 = .ok (.putfield 103, 3) := by decide +kernel
theorem dX6_walks_151 : decode cX6_walks 151 = .ok (.aload_n 0, 1) := by decide +kernel
theorem dX6_walks_152 : decode cX6_walks 152 = .ok (.aload_n 0, 1) := by decide +kernel
theorem dX6_walks_153 : decode cX6_walks 153 = .ok (.getfield 103, 3) := by decide +kernel
theorem dX6_walks_156 : decode cX6_walks 156 = .ok (.iconst (-1), 1) := by decide +kernel
theorem dX6_walks_157 : decode cX6_walks 157 = .ok (.if_icmp .ne 7, 3) := by decide +kernel
theorem dX6_walks_160 : decode cX6_walks 160 = .ok (.iconst 1, 1) := by decide +kernel
theorem dX6_walks_161 : decode cX6_walks 161 = .ok (.goto 4, 3) := by decide +kernel
theorem dX6_walks_164 : decode cX6_walks 164 = .ok (.iconst 0, 1) := by decide +kernel
theorem dX6_walks_165 : decode cX6_walks 165 = .ok (.putfield 121, 3) := by decide +kernel
theorem dX6_walks_168 : decode cX6_walks 168 = .ok (.goto (-124), 3) := by decide +kernel
theorem dX6_walks_171 : decode cX6_walks 171 = .ok (.aload_n 0, 1) := by decide +kernel
theorem dX6_walks_172 : decode cX6_walks 172 = .ok (.invokevirtual 138, 3) := by decide +kernel
theorem dX6_walks_175 : decode cX6_walks 175 = .ok (.ifCond .eq 11, 3) := by decide +kernel
theorem dX6_walks_178 : decode cX6_walks 178 = .ok (.aload_n 0, 1) := by decide +kernel
theorem dX6_walks_179 : decode cX6_walks 179 = .ok (.iconst 1, 1) := by decide +kernel
theorem dX6_walks_180 : decode cX6_walks 180 = .ok (.putfield 121, 3) := by decide +kernel
theorem dX6_walks_183 : decode cX6_walks 183 = .ok (.goto (-139), 3) := by decide +kernel
theorem dX6_walks_186 : decode cX6_walks 186 = .ok (.aload_n 0, 1) := by decide +kernel
theorem dX6_walks_187 : decode cX6_walks 187 = .ok (.iload_n 2, 1) := by decide +kernel
theorem dX6_walks_188 : decode cX6_walks 188 = .ok (.invokevirtual 142, 3) := by decide +kernel
theorem dX6_walks_191 : decode cX6_walks 191 = .ok (.ifCond .ne (-147), 3) := by decide +kernel
theorem dX6_walks_194 : decode cX6_walks 194 = .ok (.aload_n 0, 1) := by decide +kernel
theorem dX6_walks_195 : decode cX6_walks 195 = .ok (.getfield 97, 3) := by decide +kernel
theorem dX6_walks_198 : decode cX6_walks 198 = .ok (.istore 4, 2) := by decide +kernel
theorem dX6_walks_200 : decode cX6_walks 200 = .ok (.aload_n 0, 1) := by decide +kernel
theorem dX6_walks_201 : decode cX6_walks 201 = .ok (.aload_n 0, 1) := by decide +kernel
theorem dX6_walks_202 : decode cX6_walks 202 = .ok (.getfield 103, 3) := by decide +kernel
theorem dX6_walks_205 : decode cX6_walks 205 = .ok (.invokevirtual 134, 3) := by decide +kernel
theorem dX6_walks_208 : decode cX6_walks 208 = .ok (.aload_n 0, 1) := by decide +kernel
theorem dX6_walks_209 : decode cX6_walks 209 = .ok (.dup, 1) := by decide +kernel
theorem dX6_walks_210 : decode cX6_walks 210 = .ok (.getfield 128, 3) := by decide +kernel
theorem dX6_walks_213 : decode cX6_walks 213 = .ok (.iconst 1, 1) := by decide +kernel
theorem dX6_walks_214 : decode cX6_walks 214 = .ok (.iadd, 1) := by decide +kernel
theorem dX6_walks_215 : decode cX6_walks 215 = .ok (.putfield 128, 3) := by decide +kernel
theorem dX6_walks_218 : decode cX6_walks 218 = .ok (.aload_n 0, 1) := by decide +kernel
theorem dX6_walks_219 : decode cX6_walks 219 = .ok (.aload_n 0, 1) := by decide +kernel
theorem dX6_walks_220 : decode cX6_walks 220 = .ok (.getfield 97, 3) := by decide +kernel
theorem dX6_walks_223 : decode cX6_walks 223 = .ok (.iload_n 2, 1) := by decide +kernel
theorem dX6_walks_224 : decode cX6_walks 224 = .ok (.invokevirtual 50, 3) := by decide +kernel
theorem dX6_walks_227 : decode cX6_walks 227 = .ok (.aload_n 0, 1) := by decide +kernel
theorem dX6_walks_228 : decode cX6_walks 228 = .ok (.aload_n 0, 1) := by decide +kernel
theorem dX6_walks_229 : decode cX6_walks 229 = .ok (.getfield 100, 3) := by decide +kernel
theorem dX6_walks_232 : decode cX6_walks 232 = .ok (.iload_n 2, 1) := by decide +kernel
theorem dX6_walks_233 : decode cX6_walks 233 = .ok (.invokevirtual 50, 3) := by decide +kernel
theorem dX6_walks_236 : decode cX6_walks 236 = .ok (.if_icmp .ge 7, 3) := by decide +kernel
theorem dX6_walks_239 : decode cX6_walks 239 = .ok (.iconst 1, 1) := by decide +kernel
theorem dX6_walks_240 : decode cX6_walks 240 = .ok (.goto 4, 3) := by decide +kernel
theorem dX6_walks_243 : decode cX6_walks 243 = .ok (.iconst 0, 1) := by decide +kernel
theorem dX6_walks_244 : decode cX6_walks 244 = .ok (.istore_n 3, 1) := by decide +kernel
theorem dX6_walks_245 : decode cX6_walks 245 = .ok (.aload_n 0, 1) := by decide +kernel
theorem dX6_walks_246 : decode cX6_walks 246 = .ok (.aload_n 0, 1) := by decide +kernel
theorem dX6_walks_247 : decode cX6_walks 247 = .ok (.aload_n 0, 1) := by decide +kernel
theorem dX6_walks_248 : decode cX6_walks 248 = .ok (.getfield 97, 3) := by decide +kernel
theorem dX6_walks_251 : decode cX6_walks 251 = .ok (.iload 4, 2) := by decide +kernel
theorem dX6_walks_253 : decode cX6_walks 253 = .ok (.invokevirtual 74, 3) := by decide +kernel
theorem dX6_walks_256 : decode cX6_walks 256 = .ok (.putfield 103, 3) := by decide +kernel
theorem dX6_walks_259 : decode cX6_walks 259 = .ok (.goto (-215), 3) := by decide +kernel
theorem dX6_walks_262 : decode cX6_walks 262 = .ok (.return_, 1) := by decide +kernel
set_option maxRecDepth 20000 in
theorem ggX6_awakeMany_X6_isAwake : GoodIn wsX6_awakeMany wsX6_isAwake := goodIn_r _ [6, 1, 7, 8, 5, 9, 10, 11, 12, 13, 14, 15, 16, 17, 18, 19, 20, 21, 22, 23, 24, 25, 26, 27, 28, 29, 30, 31, 32, 33, 34, 35] (by decide +kernel) (by decide +kernel)
set_option maxRecDepth 20000 in
theorem gX6_awakeMany_X6_isAwake : GoodIn wsX6_awakeMany (wsV RX6 46 RX6 yX6_isAwake wsX6_isAwake) := goodIn_app (goodIn_of _ (by decide +kernel)) ggX6_awakeMany_X6_isAwake
theorem dX6_awakeMany_0 : decode cX6_awakeMany 0 = .ok (.iconst 0, 1) := by decide +kernel
theorem dX6_awakeMany_1 : decode cX6_awakeMany 1 = .ok (.istore_n 1, 1) := by decide +kernel
theorem dX6_awakeMany_2 : decode cX6_awakeMany 2 = .ok (.iconst 0, 1) := by decide +kernel
theorem dX6_awakeMany_3 : decode cX6_awakeMany 3 = .ok (.istore_n 2, 1) := by decide +kernel
theorem dX6_awakeMany_4 : decode cX6_awakeMany 4 = .ok (.iload_n 2, 1) := by decide +kernel
theorem dX6_awakeMany_5 : decode cX6_awakeMany 5 = .ok (.aload_n 0, 1) := by decide +kernel
theorem dX6_awakeMany_6 : decode cX6_awakeMany 6 = .ok (.getfield 7, 3) := by decide +kernel
theorem dX6_awakeMany_9 : decode cX6_awakeMany 9 = .ok (.iconst 0, 1) := by decide +kernel
theorem dX6_awakeMany_10 : decode cX6_awakeMany 10 = .ok (.iaload, 1) := by decide +kernel
theorem dX6_awakeMany_11 : decode cX6_awakeMany 11 = .ok (.if_icmp .ge 25, 3) := by decide +kernel
theorem dX6_awakeMany_14 : decode cX6_awakeMany 14 = .ok (.iload_n 1, 1) := by decide +kernel
theorem dX6_awakeMany_15 : decode cX6_awakeMany 15 = .ok (.aload_n 0, 1) := by decide +kernel
theorem dX6_awakeMany_16 : decode cX6_awakeMany 16 = .ok (.iload_n 2, 1) := by decide +kernel
theorem dX6_awakeMany_17 : decode cX6_awakeMany 17 = .ok (.invokevirtual 46, 3) := by decide +kernel
theorem dX6_awakeMany_20 : decode cX6_awakeMany 20 = .ok (.ifCond .eq 7, 3) := by decide +kernel
theorem dX6_awakeMany_23 : decode cX6_awakeMany 23 = .ok (.iconst 1, 1) := by decide +kernel
theorem dX6_awakeMany_24 : decode cX6_awakeMany 24 = .ok (.goto 4, 3) := by decide +kernel
theorem dX6_awakeMany_27 : decode cX6_awakeMany 27 = .ok (.iconst 0, 1) := by decide +kernel
theorem dX6_awakeMany_28 : decode cX6_awakeMany 28 = .ok (.iadd, 1) := by decide +kernel
theorem dX6_awakeMany_29 : decode cX6_awakeMany 29 = .ok (.istore_n 1, 1) := by decide +kernel
theorem dX6_awakeMany_30 : decode cX6_awakeMany 30 = .ok (.iinc 2 1, 3) := by decide +kernel
theorem dX6_awakeMany_33 : decode cX6_awakeMany 33 = .ok (.goto (-29), 3) := by decide +kernel
theorem dX6_awakeMany_36 : decode cX6_awakeMany 36 = .ok (.iload_n 1, 1) := by decide +kernel
theorem dX6_awakeMany_37 : decode cX6_awakeMany 37 = .ok (.ireturn, 1) := by decide +kernel
set_option maxRecDepth 20000 in
theorem ggX6_pairs_X6_areThin : GoodIn wsX6_pairs wsX6_areThin := goodIn_r _ [6, 1, 7, 8, 9, 5, 10, 11, 12, 13, 14, 15, 16, 17, 18, 19, 20, 21, 22, 23, 24, 25, 26, 27, 28, 29, 30, 31, 32, 33, 34, 35, 36, 37, 38, 39, 40, 41, 42, 43, 44, 45, 46, 47] (by decide +kernel) (by decide +kernel)
set_option maxRecDepth 20000 in
theorem gX6_pairs_X6_areThin : GoodIn wsX6_pairs (wsV RX6 57 RX6 yX6_areThin wsX6_areThin) := goodIn_app (goodIn_of _ (by decide +kernel)) ggX6_pairs_X6_areThin
set_option maxRecDepth 20000 in
theorem ggX6_pairs_X6_areLinked : GoodIn wsX6_pairs wsX6_areLinked := goodIn_r _ [10, 1, 11, 12, 13, 5, 14, 15, 16, 17, 18, 19, 20, 21, 22, 23, 24, 25, 26, 27, 28, 29, 30, 31, 32, 33, 34, 35, 36, 37, 38, 39, 40, 41, 42, 43, 44, 45, 46, 47] (by decide +kernel) (by decide +kernel)
set_option maxRecDepth 20000 in
theorem gX6_pairs_X6_areLinked : GoodIn wsX6_pairs (wsV RX6 54 RX6 yX6_areLinked wsX6_areLinked) := goodIn_app (goodIn_of _ (by decide +kernel)) ggX6_pairs_X6_areLinked
theorem dX6_pairs_0 : decode cX6_pairs 0 = .ok (.iconst 0, 1) := by decide +kernel
theorem dX6_pairs_1 : decode cX6_pairs 1 = .ok (.istore_n 2, 1) := by decide +kernel
theorem dX6_pairs_2 : decode cX6_pairs 2 = .ok (.iconst 0, 1) := by decide +kernel
theorem dX6_pairs_3 : decode cX6_pairs 3 = .ok (.istore_n 3, 1) := by decide +kernel
theorem dX6_pairs_4 : decode cX6_pairs 4 = .ok (.iload_n 3, 1) := by decide +kernel
theorem dX6_pairs_5 : decode cX6_pairs 5 = .ok (.aload_n 0, 1) := by decide +kernel
theorem dX6_pairs_6 : decode cX6_pairs 6 = .ok (.getfield 7, 3) := by decide +kernel
theorem dX6_pairs_9 : decode cX6_pairs 9 = .ok (.iconst 0, 1) := by decide +kernel
theorem dX6_pairs_10 : decode cX6_pairs 10 = .ok (.iaload, 1) := by decide +kernel
theorem dX6_pairs_11 : decode cX6_pairs 11 = .ok (.if_icmp .ge 66, 3) := by decide +kernel
theorem dX6_pairs_14 : decode cX6_pairs 14 = .ok (.iload_n 3, 1) := by decide +kernel
theorem dX6_pairs_15 : decode cX6_pairs 15 = .ok (.iconst 1, 1) := by decide +kernel
theorem dX6_pairs_16 : decode cX6_pairs 16 = .ok (.iadd, 1) := by decide +kernel
theorem dX6_pairs_17 : decode cX6_pairs 17 = .ok (.istore 4, 2) := by decide +kernel
theorem dX6_pairs_19 : decode cX6_pairs 19 = .ok (.iload 4, 2) := by decide +kernel
theorem dX6_pairs_21 : decode cX6_pairs 21 = .ok (.aload_n 0, 1) := by decide +kernel
theorem dX6_pairs_22 : decode cX6_pairs 22 = .ok (.getfield 7, 3) := by decide +kernel
theorem dX6_pairs_25 : decode cX6_pairs 25 = .ok (.iconst 0, 1) := by decide +kernel
theorem dX6_pairs_26 : decode cX6_pairs 26 = .ok (.iaload, 1) := by decide +kernel
theorem dX6_pairs_27 : decode cX6_pairs 27 = .ok (.if_icmp .ge 44, 3) := by decide +kernel
theorem dX6_pairs_30 : decode cX6_pairs 30 = .ok (.iload_n 2, 1) := by decide +kernel
theorem dX6_pairs_31 : decode cX6_pairs 31 = .ok (.iload_n 1, 1) := by decide +kernel
theorem dX6_pairs_32 : decode cX6_pairs 32 = .ok (.ifCond .eq 16, 3) := by decide +kernel
theorem dX6_pairs_35 : decode cX6_pairs 35 = .ok (.aload_n 0, 1) := by decide +kernel
theorem dX6_pairs_36 : decode cX6_pairs 36 = .ok (.iload_n 3, 1) := by decide +kernel
theorem dX6_pairs_37 : decode cX6_pairs 37 = .ok (.iload 4, 2) := by decide +kernel
theorem dX6_pairs_39 : decode cX6_pairs 39 = .ok (.invokevirtual 57, 3) := by decide +kernel
theorem dX6_pairs_42 : decode cX6_pairs 42 = .ok (.ifCond .eq 20, 3) := by decide +kernel
theorem dX6_pairs_45 : decode cX6_pairs 45 = .ok (.goto 13, 3) := by decide +kernel
theorem dX6_pairs_48 : decode cX6_pairs 48 = .ok (.aload_n 0, 1) := by decide +kernel
theorem dX6_pairs_49 : decode cX6_pairs 49 = .ok (.iload_n 3, 1) := by decide +kernel
theorem dX6_pairs_50 : decode cX6_pairs 50 = .ok (.iload 4, 2) := by decide +kernel
theorem dX6_pairs_52 : decode cX6_pairs 52 = .ok (.invokevirtual 54, 3) := by decide +kernel
theorem dX6_pairs_55 : decode cX6_pairs 55 = .ok (.ifCond .eq 7, 3) := by decide +kernel
theorem dX6_pairs_58 : decode cX6_pairs 58 = .ok (.iconst 1, 1) := by decide +kernel
theorem dX6_pairs_59 : decode cX6_pairs 59 = .ok (.goto 4, 3) := by decide +kernel
theorem dX6_pairs_62 : decode cX6_pairs 62 = .ok (.iconst 0, 1) := by decide +kernel
theorem dX6_pairs_63 : decode cX6_pairs 63 = .ok (.iadd, 1) := by decide +kernel
theorem dX6_pairs_64 : decode cX6_pairs 64 = .ok (.istore_n 2, 1) := by decide +kernel
theorem dX6_pairs_65 : decode cX6_pairs 65 = .ok (.iinc 4 1, 3) := by decide +kernel
theorem dX6_pairs_68 : decode cX6_pairs 68 = .ok (.goto (-49), 3) := by decide +kernel
theorem dX6_pairs_71 : decode cX6_pairs 71 = .ok (.iinc 3 1, 3) := by decide +kernel
theorem dX6_pairs_74 : decode cX6_pairs 74 = .ok (.goto (-70), 3) := by decide +kernel
theorem dX6_pairs_77 : decode cX6_pairs 77 = .ok (.iload_n 2, 1) := by decide +kernel
theorem dX6_pairs_78 : decode cX6_pairs 78 = .ok (.ireturn, 1) := by decide +kernel
set_option maxRecDepth 20000 in
theorem ggX6_ways_X6_isAwake : GoodIn wsX6_ways wsX6_isAwake := goodIn_r _ [8, 1, 9, 10, 7, 11, 78, 79, 80, 81, 82, 83, 84, 85, 86, 87, 88, 89, 90, 91, 92, 93, 94, 95, 96, 97, 98, 99, 100, 101, 102, 103] (by decide +kernel) (by decide +kernel)
set_option maxRecDepth 20000 in
theorem gX6_ways_X6_isAwake : GoodIn wsX6_ways (wsV RX6 46 RX6 yX6_isAwake wsX6_isAwake) := goodIn_app (goodIn_of _ (by decide +kernel)) ggX6_ways_X6_isAwake
set_option maxRecDepth 20000 in
theorem ggX6_ways_X6_walks : GoodIn wsX6_ways wsX6_walks := goodIn_r _ [15, 16, 17, 2, 3, 18, 19, 20, 21, 22, 23, 24, 25, 26, 27, 28, 7, 29, 1, 30, 31, 32, 33, 4, 5, 6, 8, 9, 10, 11, 34, 35, 36, 37, 38, 39, 40, 41, 42, 43, 44, 45, 46, 47, 48, 49, 50, 51, 52, 53, 54, 55, 56, 57, 58, 59, 60, 61, 62, 63, 64, 65, 66, 67, 68, 69, 70, 71, 72, 73, 74, 75, 76, 77, 78, 79, 80, 81, 82, 83, 84, 85, 86, 87, 88, 89, 90, 91, 92, 93, 94, 95, 96, 97, 98, 99, 100, 101, 102, 103] (by decide +kernel) (by decide +kernel)
set_option maxRecDepth 20000 in
theorem gX6_ways_X6_walks : GoodIn wsX6_ways (wsV RX6 145 RX6 yX6_walks wsX6_walks) := goodIn_app (goodIn_of _ (by decide +kernel)) ggX6_ways_X6_walks
theorem dX6_ways_0 : decode cX6_ways 0 = .ok (.iconst 0, 1) := by decide +kernel
theorem dX6_ways_1 : decode cX6_ways 1 = .ok (.istore_n 2, 1) := by decide +kernel
theorem dX6_ways_2 : decode cX6_ways 2 = .ok (.iconst 0, 1) := by decide +kernel
theorem dX6_ways_3 : decode cX6_ways 3 = .ok (.istore_n 3, 1) := by decide +kernel
theorem dX6_ways_4 : decode cX6_ways 4 = .ok (.iload_n 3, 1) := by decide +kernel
theorem dX6_ways_5 : decode cX6_ways 5 = .ok (.aload_n 0, 1) := by decide +kernel
theorem dX6_ways_6 : decode cX6_ways 6 = .ok (.getfield 7, 3) := by decide +kernel
theorem dX6_ways_9 : decode cX6_ways 9 = .ok (.iconst 0, 1) := by decide +kernel
theorem dX6_ways_10 : decode cX6_ways 10 = .ok (.iaload, 1) := by decide +kernel
theorem dX6_ways_11 : decode cX6_ways 11 = .ok (.if_icmp .ge 88, 3) := by decide +kernel
theorem dX6_ways_14 : decode cX6_ways 14 = .ok (.iconst 0, 1) := by decide +kernel
theorem dX6_ways_15 : decode cX6_ways 15 = .ok (.istore 4, 2) := by decide +kernel
theorem dX6_ways_17 : decode cX6_ways 17 = .ok (.iload 4, 2) := by decide +kernel
theorem dX6_ways_19 : decode cX6_ways 19 = .ok (.aload_n 0, 1) := by decide +kernel
theorem dX6_ways_20 : decode cX6_ways 20 = .ok (.getfield 7, 3) := by decide +kernel
theorem dX6_ways_23 : decode cX6_ways 23 = .ok (.iconst 0, 1) := by decide +kernel
theorem dX6_ways_24 : decode cX6_ways 24 = .ok (.iaload, 1) := by decide +kernel
theorem dX6_ways_25 : decode cX6_ways 25 = .ok (.if_icmp .ge 68, 3) := by decide +kernel
theorem dX6_ways_28 : decode cX6_ways 28 = .ok (.iload_n 3, 1) := by decide +kernel
theorem dX6_ways_29 : decode cX6_ways 29 = .ok (.iload 4, 2) := by decide +kernel
theorem dX6_ways_31 : decode cX6_ways 31 = .ok (.if_icmp .eq 56, 3) := by decide +kernel
theorem dX6_ways_34 : decode cX6_ways 34 = .ok (.aload_n 0, 1) := by decide +kernel
theorem dX6_ways_35 : decode cX6_ways 35 = .ok (.iload_n 3, 1) := by decide +kernel
theorem dX6_ways_36 : decode cX6_ways 36 = .ok (.invokevirtual 46, 3) := by decide +kernel
theorem dX6_ways_39 : decode cX6_ways 39 = .ok (.ifCond .eq 48, 3) := by decide +kernel
theorem dX6_ways_42 : decode cX6_ways 42 = .ok (.aload_n 0, 1) := by decide +kernel
theorem dX6_ways_43 : decode cX6_ways 43 = .ok (.iload 4, 2) := by decide +kernel
theorem dX6_ways_45 : decode cX6_ways 45 = .ok (.invokevirtual 46, 3) := by decide +kernel
theorem dX6_ways_48 : decode cX6_ways 48 = .ok (.ifCond .eq 39, 3) := by decide +kernel
theorem dX6_ways_51 : decode cX6_ways 51 = .ok (.aload_n 0, 1) := by decide +kernel
theorem dX6_ways_52 : decode cX6_ways 52 = .ok (.iload_n 3, 1) := by decide +kernel
theorem dX6_ways_53 : decode cX6_ways 53 = .ok (.iload 4, 2) := by decide +kernel
theorem dX6_ways_55 : decode cX6_ways 55 = .ok (.invokevirtual 145, 3) := by decide +kernel
theorem dX6_ways_58 : decode cX6_ways 58 = .ok (.iload_n 2, 1) := by decide +kernel
theorem dX6_ways_59 : decode cX6_ways 59 = .ok (.iload_n 1, 1) := by decide +kernel
theorem dX6_ways_60 : decode cX6_ways 60 = .ok (.ifCond .eq 13, 3) := by decide +kernel
theorem dX6_ways_63 : decode cX6_ways 63 = .ok (.aload_n 0, 1) := by decide +kernel
theorem dX6_ways_64 : decode cX6_ways 64 = .ok (.getfield 121, 3) := by decide +kernel
theorem dX6_ways_67 : decode cX6_ways 67 = .ok (.ifCond .eq 17, 3) := by decide +kernel
theorem dX6_ways_70 : decode cX6_ways 70 = .ok (.goto 10, 3) := by decide +kernel
theorem dX6_ways_73 : decode cX6_ways 73 = .ok (.aload_n 0, 1) := by decide +kernel
theorem dX6_ways_74 : decode cX6_ways 74 = .ok (.getfield 125, 3) := by decide +kernel
theorem dX6_ways_77 : decode cX6_ways 77 = .ok (.ifCond .ne 7, 3) := by decide +kernel
theorem dX6_ways_80 : decode cX6_ways 80 = .ok (.iconst 1, 1) := by decide +kernel
theorem dX6_ways_81 : decode cX6_ways 81 = .ok (.goto 4, 3) := by decide +kernel
theorem dX6_ways_84 : decode cX6_ways 84 = .ok (.iconst 0, 1) := by decide +kernel
theorem dX6_ways_85 : decode cX6_ways 85 = .ok (.iadd, 1) := by decide +kernel
theorem dX6_ways_86 : decode cX6_ways 86 = .ok (.istore_n 2, 1) := by decide +kernel
theorem dX6_ways_87 : decode cX6_ways 87 = .ok (.iinc 4 1, 3) := by decide +kernel
theorem dX6_ways_90 : decode cX6_ways 90 = .ok (.goto (-73), 3) := by decide +kernel
theorem dX6_ways_93 : decode cX6_ways 93 = .ok (.iinc 3 1, 3) := by decide +kernel
theorem dX6_ways_96 : decode cX6_ways 96 = .ok (.goto (-92), 3) := by decide +kernel
theorem dX6_ways_99 : decode cX6_ways 99 = .ok (.iload_n 2, 1) := by decide +kernel
theorem dX6_ways_100 : decode cX6_ways 100 = .ok (.ireturn, 1) := by decide +kernel
set_option maxRecDepth 20000 in
theorem ggX6_wrong_X6_isNode : GoodIn wsX6_wrong wsX6_isNode := goodIn_r _ [11, 12, 13, 14, 10, 15, 89, 90, 91, 92, 93, 94, 95, 96, 97, 98, 99, 100, 101, 102, 103, 104, 105, 106, 107, 108, 109, 110, 111, 112, 113, 114] (by decide +kernel) (by decide +kernel)
set_option maxRecDepth 20000 in
theorem gX6_wrong_X6_isNode : GoodIn wsX6_wrong (wsV RX6 152 RX6 yX6_isNode wsX6_isNode) := goodIn_app (goodIn_of _ (by decide +kernel)) ggX6_wrong_X6_isNode
set_option maxRecDepth 20000 in
theorem ggX6_wrong_X6_isAwake : GoodIn wsX6_wrong wsX6_isAwake := goodIn_r _ [19, 12, 20, 21, 10, 22, 89, 90, 91, 92, 93, 94, 95, 96, 97, 98, 99, 100, 101, 102, 103, 104, 105, 106, 107, 108, 109, 110, 111, 112, 113, 114] (by decide +kernel) (by decide +kernel)
set_option maxRecDepth 20000 in
theorem gX6_wrong_X6_isAwake : GoodIn wsX6_wrong (wsV RX6 46 RX6 yX6_isAwake wsX6_isAwake) := goodIn_app (goodIn_of _ (by decide +kernel)) ggX6_wrong_X6_isAwake
set_option maxRecDepth 20000 in
theorem ggX6_wrong_X6_walks : GoodIn wsX6_wrong wsX6_walks := goodIn_r _ [26, 6, 27, 5, 28, 29, 30, 31, 32, 33, 34, 35, 36, 37, 38, 39, 10, 40, 12, 41, 42, 43, 44, 16, 17, 18, 19, 20, 21, 22, 45, 46, 47, 48, 49, 50, 51, 52, 53, 54, 55, 56, 57, 58, 59, 60, 61, 62, 63, 64, 65, 66, 67, 68, 69, 70, 71, 72, 73, 74, 75, 76, 77, 78, 79, 80, 81, 82, 83, 84, 85, 86, 87, 88, 89, 90, 91, 92, 93, 94, 95, 96, 97, 98, 99, 100, 101, 102, 103, 104, 105, 106, 107, 108, 109, 110, 111, 112, 113, 114] (by decide +kernel) (by decide +kernel)
set_option maxRecDepth 20000 in
theorem gX6_wrong_X6_walks : GoodIn wsX6_wrong (wsV RX6 145 RX6 yX6_walks wsX6_walks) := goodIn_app (goodIn_of _ (by decide +kernel)) ggX6_wrong_X6_walks
theorem dX6_wrong_0 : decode cX6_wrong 0 = .ok (.iconst 0, 1) := by decide +kernel
theorem dX6_wrong_1 : decode cX6_wrong 1 = .ok (.istore_n 1, 1) := by decide +kernel
theorem dX6_wrong_2 : decode cX6_wrong 2 = .ok (.iload_n 1, 1) := by decide +kernel
theorem dX6_wrong_3 : decode cX6_wrong 3 = .ok (.aload_n 0, 1) := by decide +kernel
theorem dX6_wrong_4 : decode cX6_wrong 4 = .ok (.getfield 149, 3) := by decide +kernel
theorem dX6_wrong_7 : decode cX6_wrong 7 = .ok (.if_icmp .ge 89, 3) := by decide +kernel
theorem dX6_wrong_10 : decode cX6_wrong 10 = .ok (.aload_n 0, 1) := by decide +kernel
theorem dX6_wrong_11 : decode cX6_wrong 11 = .ok (.getfield 23, 3) := by decide +kernel
theorem dX6_wrong_14 : decode cX6_wrong 14 = .ok (.iload_n 1, 1) := by decide +kernel
theorem dX6_wrong_15 : decode cX6_wrong 15 = .ok (.iaload, 1) := by decide +kernel
theorem dX6_wrong_16 : decode cX6_wrong 16 = .ok (.istore_n 2, 1) := by decide +kernel
theorem dX6_wrong_17 : decode cX6_wrong 17 = .ok (.aload_n 0, 1) := by decide +kernel
theorem dX6_wrong_18 : decode cX6_wrong 18 = .ok (.getfield 26, 3) := by decide +kernel
theorem dX6_wrong_21 : decode cX6_wrong 21 = .ok (.iload_n 1, 1) := by decide +kernel
theorem dX6_wrong_22 : decode cX6_wrong 22 = .ok (.iaload, 1) := by decide +kernel
theorem dX6_wrong_23 : decode cX6_wrong 23 = .ok (.istore_n 3, 1) := by decide +kernel
theorem dX6_wrong_24 : decode cX6_wrong 24 = .ok (.aload_n 0, 1) := by decide +kernel
theorem dX6_wrong_25 : decode cX6_wrong 25 = .ok (.iload_n 2, 1) := by decide +kernel
theorem dX6_wrong_26 : decode cX6_wrong 26 = .ok (.invokevirtual 152, 3) := by decide +kernel
theorem dX6_wrong_29 : decode cX6_wrong 29 = .ok (.ifCond .eq 27, 3) := by decide +kernel
theorem dX6_wrong_32 : decode cX6_wrong 32 = .ok (.aload_n 0, 1) := by decide +kernel
theorem dX6_wrong_33 : decode cX6_wrong 33 = .ok (.iload_n 3, 1) := by decide +kernel
theorem dX6_wrong_34 : decode cX6_wrong 34 = .ok (.invokevirtual 152, 3) := by decide +kernel
theorem dX6_wrong_37 : decode cX6_wrong 37 = .ok (.ifCond .eq 19, 3) := by decide +kernel
theorem dX6_wrong_40 : decode cX6_wrong 40 = .ok (.aload_n 0, 1) := by decide +kernel
theorem dX6_wrong_41 : decode cX6_wrong 41 = .ok (.iload_n 2, 1) := by decide +kernel
theorem dX6_wrong_42 : decode cX6_wrong 42 = .ok (.invokevirtual 46, 3) := by decide +kernel
theorem dX6_wrong_45 : decode cX6_wrong 45 = .ok (.ifCond .eq 11, 3) := by decide +kernel
theorem dX6_wrong_48 : decode cX6_wrong 48 = .ok (.aload_n 0, 1) := by decide +kernel
theorem dX6_wrong_49 : decode cX6_wrong 49 = .ok (.iload_n 3, 1) := by decide +kernel
theorem dX6_wrong_50 : decode cX6_wrong 50 = .ok (.invokevirtual 46, 3) := by decide +kernel
theorem dX6_wrong_53 : decode cX6_wrong 53 = .ok (.ifCond .ne 5, 3) := by decide +kernel
theorem dX6_wrong_56 : decode cX6_wrong 56 = .ok (.iload_n 1, 1) := by decide +kernel
theorem dX6_wrong_57 : decode cX6_wrong 57 = .ok (.ireturn, 1) := by decide +kernel
theorem dX6_wrong_58 : decode cX6_wrong 58 = .ok (.aload_n 0, 1) := by decide +kernel
theorem dX6_wrong_59 : decode cX6_wrong 59 = .ok (.iload_n 2, 1) := by decide +kernel
theorem dX6_wrong_60 : decode cX6_wrong 60 = .ok (.iload_n 3, 1) := by decide +kernel
theorem dX6_wrong_61 : decode cX6_wrong 61 = .ok (.invokevirtual 145, 3) := by decide +kernel
theorem dX6_wrong_64 : decode cX6_wrong 64 = .ok (.aload_n 0, 1) := by decide +kernel
theorem dX6_wrong_65 : decode cX6_wrong 65 = .ok (.getfield 29, 3) := by decide +kernel
theorem dX6_wrong_68 : decode cX6_wrong 68 = .ok (.iload_n 1, 1) := by decide +kernel
theorem dX6_wrong_69 : decode cX6_wrong 69 = .ok (.iaload, 1) := by decide +kernel
theorem dX6_wrong_70 : decode cX6_wrong 70 = .ok (.aload_n 0, 1) := by decide +kernel
theorem dX6_wrong_71 : decode cX6_wrong 71 = .ok (.getfield 121, 3) := by decide +kernel
theorem dX6_wrong_74 : decode cX6_wrong 74 = .ok (.ifCond .eq 7, 3) := by decide +kernel
theorem dX6_wrong_77 : decode cX6_wrong 77 = .ok (.iconst (-1), 1) := by decide +kernel
theorem dX6_wrong_78 : decode cX6_wrong 78 = .ok (.goto 7, 3) := by decide +kernel
theorem dX6_wrong_81 : decode cX6_wrong 81 = .ok (.aload_n 0, 1) := by decide +kernel
theorem dX6_wrong_82 : decode cX6_wrong 82 = .ok (.getfield 112, 3) := by decide +kernel
theorem dX6_wrong_85 : decode cX6_wrong 85 = .ok (.if_icmp .eq 5, 3) := by decide +kernel
theorem dX6_wrong_88 : decode cX6_wrong 88 = .ok (.iload_n 1, 1) := by decide +kernel
theorem dX6_wrong_89 : decode cX6_wrong 89 = .ok (.ireturn, 1) := by decide +kernel
theorem dX6_wrong_90 : decode cX6_wrong 90 = .ok (.iinc 1 1, 3) := by decide +kernel
theorem dX6_wrong_93 : decode cX6_wrong 93 = .ok (.goto (-91), 3) := by decide +kernel
theorem dX6_wrong_96 : decode cX6_wrong 96 = .ok (.iconst (-1), 1) := by decide +kernel
theorem dX6_wrong_97 : decode cX6_wrong 97 = .ok (.ireturn, 1) := by decide +kernel
set_option maxRecDepth 20000 in
theorem ggX6_told_X6_awakeMany : GoodIn wsX6_told wsX6_awakeMany := goodIn_r _ [12, 1, 13, 14, 15, 11, 16, 17, 18, 19, 134, 135, 136, 137, 138, 139, 140, 141, 142, 143, 144, 145, 146, 147, 148, 149, 150, 151, 152, 153, 154, 155, 156, 157, 158, 159] (by decide +kernel) (by decide +kernel)
set_option maxRecDepth 20000 in
theorem gX6_told_X6_awakeMany : GoodIn wsX6_told (wsV RX6 155 RX6 yX6_awakeMany wsX6_awakeMany) := goodIn_app (goodIn_of _ (by decide +kernel)) ggX6_told_X6_awakeMany
set_option maxRecDepth 20000 in
theorem ggX6_told_X6_pairs : GoodIn wsX6_told wsX6_pairs := goodIn_r _ [23, 1, 24, 25, 26, 11, 27, 28, 29, 30, 31, 13, 14, 15, 16, 17, 18, 19, 32, 33, 34, 35, 134, 135, 136, 137, 138, 139, 140, 141, 142, 143, 144, 145, 146, 147, 148, 149, 150, 151, 152, 153, 154, 155, 156, 157, 158, 159] (by decide +kernel) (by decide +kernel)
set_option maxRecDepth 20000 in
theorem gX6_told_X6_pairs : GoodIn wsX6_told (wsV RX6 159 RX6 yX6_pairs wsX6_pairs) := goodIn_app (goodIn_of _ (by decide +kernel)) ggX6_told_X6_pairs
set_option maxRecDepth 20000 in
theorem ggX6_told_X6_laysFaces : GoodIn wsX6_told wsX6_laysFaces := goodIn_r _ [39, 2, 3, 1, 24, 25, 26, 11, 27, 28, 29, 30, 31, 13, 14, 15, 16, 17, 18, 19, 32, 33, 34, 35, 40, 41, 42, 43, 44, 45, 46, 47, 48, 49, 50, 51, 52, 53, 54, 55, 56, 57, 58, 59, 134, 135, 136, 137, 138, 139, 140, 141, 142, 143, 144, 145, 146, 147, 148, 149, 150, 151, 152, 153, 154, 155, 156, 157, 158, 159] (by decide +kernel) (by decide +kernel)
set_option maxRecDepth 20000 in
theorem gX6_told_X6_laysFaces : GoodIn wsX6_told (wsV RX6 163 RX6 yX6_laysFaces wsX6_laysFaces) := goodIn_app (goodIn_of _ (by decide +kernel)) ggX6_told_X6_laysFaces
set_option maxRecDepth 20000 in
theorem ggX6_told_X6_partsOf : GoodIn wsX6_told wsX6_partsOf := goodIn_r _ [63, 1, 17, 18, 11, 19, 64, 65, 66, 67, 24, 25, 26, 27, 28, 29, 30, 31, 13, 14, 15, 16, 32, 33, 34, 35, 134, 135, 136, 137, 138, 139, 140, 141, 142, 143, 144, 145, 146, 147, 148, 149, 150, 151, 152, 153, 154, 155, 156, 157, 158, 159] (by decide +kernel) (by decide +kernel)
set_option maxRecDepth 20000 in
theorem gX6_told_X6_partsOf : GoodIn wsX6_told (wsV RX6 166 RX6 yX6_partsOf wsX6_partsOf) := goodIn_app (goodIn_of _ (by decide +kernel)) ggX6_told_X6_partsOf
set_option maxRecDepth 20000 in
theorem ggX6_told_X6_crossings : GoodIn wsX6_told wsX6_crossings := goodIn_r _ [71, 1, 28, 29, 30, 11, 31, 13, 14, 15, 16, 17, 18, 19, 32, 33, 34, 35, 72, 73, 74, 75, 76, 77, 78, 79, 56, 57, 58, 59, 80, 81, 82, 134, 135, 136, 137, 138, 139, 140, 141, 142, 143, 144, 145, 146, 147, 148, 149, 150, 151, 152, 153, 154, 155, 156, 157, 158, 159] (by decide +kernel) (by decide +kernel)
set_option maxRecDepth 20000 in
theorem gX6_told_X6_crossings : GoodIn wsX6_told (wsV RX6 169 RX6 yX6_crossings wsX6_crossings) := goodIn_app (goodIn_of _ (by decide +kernel)) ggX6_told_X6_crossings
set_option maxRecDepth 20000 in
theorem ggX6_told_X6_ways : GoodIn wsX6_told wsX6_ways := goodIn_r _ [86, 1, 87, 88, 13, 14, 15, 11, 16, 17, 18, 19, 89, 90, 91, 92, 93, 94, 95, 96, 97, 98, 99, 100, 101, 102, 103, 104, 105, 106, 28, 29, 30, 31, 32, 33, 34, 35, 107, 108, 109, 110, 44, 45, 46, 47, 24, 25, 26, 27, 48, 49, 50, 51, 52, 53, 54, 55, 56, 57, 58, 59, 111, 112, 113, 114, 115, 116, 117, 118, 119, 120, 121, 122, 40, 41, 42, 43, 134, 135, 136, 137, 138, 139, 140, 141, 142, 143, 144, 145, 146, 147, 148, 149, 150, 151, 152, 153, 154, 155, 156, 157, 158, 159] (by decide +kernel) (by decide +kernel)
set_option maxRecDepth 20000 in
theorem gX6_told_X6_ways : GoodIn wsX6_told (wsV RX6 172 RX6 yX6_ways wsX6_ways) := goodIn_app (goodIn_of _ (by decide +kernel)) ggX6_told_X6_ways
set_option maxRecDepth 20000 in
theorem ggX6_told_X6_wrong : GoodIn wsX6_told wsX6_wrong := goodIn_r _ [126, 4, 127, 128, 129, 87, 93, 130, 131, 132, 11, 133, 1, 80, 81, 82, 13, 14, 15, 16, 17, 18, 19, 89, 90, 91, 92, 94, 88, 95, 96, 97, 98, 99, 100, 101, 102, 103, 104, 105, 106, 28, 29, 30, 31, 32, 33, 34, 35, 107, 108, 109, 110, 44, 45, 46, 47, 24, 25, 26, 27, 48, 49, 50, 51, 52, 53, 54, 55, 56, 57, 58, 59, 111, 112, 113, 114, 115, 116, 117, 118, 119, 120, 121, 122, 40, 41, 42, 43, 134, 135, 136, 137, 138, 139, 140, 141, 142, 143, 144, 145, 146, 147, 148, 149, 150, 151, 152, 153, 154, 155, 156, 157, 158, 159] (by decide +kernel) (by decide +kernel)
set_option maxRecDepth 20000 in
theorem gX6_told_X6_wrong : GoodIn wsX6_told (wsV RX6 175 RX6 yX6_wrong wsX6_wrong) := goodIn_app (goodIn_of _ (by decide +kernel)) ggX6_told_X6_wrong
theorem dX6_told_0 : decode cX6_told 0 = .ok (.iload_n 1, 1) := by decide +kernel
theorem dX6_told_1 : decode cX6_told 1 = .ok (.tableswitch 177 0 15 #[79, 86, 91, 98, 105, 111, 117, 126, 131, 136, 145, 151, 157, 162, 167, 172], 79) := by decide +kernel
theorem dX6_told_80 : decode cX6_told 80 = .ok (.aload_n 0, 1) := by decide +kernel
theorem dX6_told_81 : decode cX6_told 81 = .ok (.getfield 7, 3) := by decide +kernel
theorem dX6_told_84 : decode cX6_told 84 = .ok (.iconst 0, 1) := by decide +kernel
theorem dX6_told_85 : decode cX6_told 85 = .ok (.iaload, 1) := by decide +kernel
theorem dX6_told_86 : decode cX6_told 86 = .ok (.ireturn, 1) := by decide +kernel
theorem dX6_told_87 : decode cX6_told 87 = .ok (.aload_n 0, 1) := by decide +kernel
theorem dX6_told_88 : decode cX6_told 88 = .ok (.invokevirtual 155, 3) := by decide +kernel
theorem dX6_told_91 : decode cX6_told 91 = .ok (.ireturn, 1) := by decide +kernel
theorem dX6_told_92 : decode cX6_told 92 = .ok (.aload_n 0, 1) := by decide +kernel
theorem dX6_told_93 : decode cX6_told 93 = .ok (.getfield 7, 3) := by decide +kernel
theorem dX6_told_96 : decode cX6_told 96 = .ok (.iconst 1, 1) := by decide +kernel
theorem dX6_told_97 : decode cX6_told 97 = .ok (.iaload, 1) := by decide +kernel
theorem dX6_told_98 : decode cX6_told 98 = .ok (.ireturn, 1) := by decide +kernel
theorem dX6_told_99 : decode cX6_told 99 = .ok (.aload_n 0, 1) := by decide +kernel
theorem dX6_told_100 : decode cX6_told 100 = .ok (.getfield 7, 3) := by decide +kernel
theorem dX6_told_103 : decode cX6_told 103 = .ok (.iconst 2, 1) := by decide +kernel
theorem dX6_told_104 : decode cX6_told 104 = .ok (.iaload, 1) := by decide +kernel
theorem dX6_told_105 : decode cX6_told 105 = .ok (.ireturn, 1) := by decide +kernel
theorem dX6_told_106 : decode cX6_told 106 = .ok (.aload_n 0, 1) := by decide +kernel
theorem dX6_told_107 : decode cX6_told 107 = .ok (.iconst 0, 1) := by decide +kernel
theorem dX6_told_108 : decode cX6_told 108 = .ok (.invokevirtual 159, 3) := by decide +kernel
theorem dX6_told_111 : decode cX6_told 111 = .ok (.ireturn, 1) := by decide +kernel
theorem dX6_told_112 : decode cX6_told 112 = .ok (.aload_n 0, 1) := by decide +kernel
theorem dX6_told_113 : decode cX6_told 113 = .ok (.iconst 1, 1) := by decide +kernel
theorem dX6_told_114 : decode cX6_told 114 = .ok (.invokevirtual 159, 3) := by decide +kernel
theorem dX6_told_117 : decode cX6_told 117 = .ok (.ireturn, 1) := by decide +kernel
theorem dX6_told_118 : decode cX6_told 118 = .ok (.aload_n 0, 1) := by decide +kernel
theorem dX6_told_119 : decode cX6_told 119 = .ok (.invokevirtual 163, 3) := by decide +kernel
theorem dX6_told_122 : decode cX6_told 122 = .ok (.aload_n 0, 1) := by decide +kernel
theorem dX6_told_123 : decode cX6_told 123 = .ok (.getfield 77, 3) := by decide +kernel
theorem dX6_told_126 : decode cX6_told 126 = .ok (.ireturn, 1) := by decide +kernel
theorem dX6_told_127 : decode cX6_told 127 = .ok (.aload_n 0, 1) := by decide +kernel
theorem dX6_told_128 : decode cX6_told 128 = .ok (.invokevirtual 166, 3) := by decide +kernel
theorem dX6_told_131 : decode cX6_told 131 = .ok (.ireturn, 1) := by decide +kernel
theorem dX6_told_132 : decode cX6_told 132 = .ok (.aload_n 0, 1) := by decide +kernel
theorem dX6_told_133 : decode cX6_told 133 = .ok (.invokevirtual 169, 3) := by decide +kernel
theorem dX6_told_136 : decode cX6_told 136 = .ok (.ireturn, 1) := by decide +kernel
theorem dX6_told_137 : decode cX6_told 137 = .ok (.aload_n 0, 1) := by decide +kernel
theorem dX6_told_138 : decode cX6_told 138 = .ok (.invokevirtual 163, 3) := by decide +kernel
theorem dX6_told_141 : decode cX6_told 141 = .ok (.aload_n 0, 1) := by decide +kernel
theorem dX6_told_142 : decode cX6_told 142 = .ok (.getfield 81, 3) := by decide +kernel
theorem dX6_told_145 : decode cX6_told 145 = .ok (.ireturn, 1) := by decide +kernel
theorem dX6_told_146 : decode cX6_told 146 = .ok (.aload_n 0, 1) := by decide +kernel
theorem dX6_told_147 : decode cX6_told 147 = .ok (.iconst 0, 1) := by decide +kernel
theorem dX6_told_148 : decode cX6_told 148 = .ok (.invokevirtual 172, 3) := by decide +kernel
theorem dX6_told_151 : decode cX6_told 151 = .ok (.ireturn, 1) := by decide +kernel
theorem dX6_told_152 : decode cX6_told 152 = .ok (.aload_n 0, 1) := by decide +kernel
theorem dX6_told_153 : decode cX6_told 153 = .ok (.iconst 1, 1) := by decide +kernel
theorem dX6_told_154 : decode cX6_told 154 = .ok (.invokevirtual 172, 3) := by decide +kernel
theorem dX6_told_157 : decode cX6_told 157 = .ok (.ireturn, 1) := by decide +kernel
theorem dX6_told_158 : decode cX6_told 158 = .ok (.aload_n 0, 1) := by decide +kernel
theorem dX6_told_159 : decode cX6_told 159 = .ok (.getfield 149, 3) := by decide +kernel
theorem dX6_told_162 : decode cX6_told 162 = .ok (.ireturn, 1) := by decide +kernel
theorem dX6_told_163 : decode cX6_told 163 = .ok (.aload_n 0, 1) := by decide +kernel
theorem dX6_told_164 : decode cX6_told 164 = .ok (.invokevirtual 175, 3) := by decide +kernel
theorem dX6_told_167 : decode cX6_told 167 = .ok (.ireturn, 1) := by decide +kernel
theorem dX6_told_168 : decode cX6_told 168 = .ok (.aload_n 0, 1) := by decide +kernel
theorem dX6_told_169 : decode cX6_told 169 = .ok (.getfield 178, 3) := by decide +kernel
theorem dX6_told_172 : decode cX6_told 172 = .ok (.ireturn, 1) := by decide +kernel
theorem dX6_told_173 : decode cX6_told 173 = .ok (.aload_n 0, 1) := by decide +kernel
theorem dX6_told_174 : decode cX6_told 174 = .ok (.getfield 181, 3) := by decide +kernel
theorem dX6_told_177 : decode cX6_told 177 = .ok (.ireturn, 1) := by decide +kernel
theorem dX6_told_178 : decode cX6_told 178 = .ok (.ldc 184, 2) := by decide +kernel
theorem dX6_told_180 : decode cX6_told 180 = .ok (.ireturn, 1) := by decide +kernel
set_option maxRecDepth 20000 in
theorem ggX6_strays_X6_isAwake : GoodIn wsX6_strays wsX6_isAwake := goodIn_r _ [6, 1, 7, 8, 5, 9, 22, 23, 24, 25, 26, 27, 28, 29, 30, 31, 32, 33, 34, 35, 36, 37, 38, 39, 40, 41, 42, 43, 44, 45, 46, 47] (by decide +kernel) (by decide +kernel)
set_option maxRecDepth 20000 in
theorem gX6_strays_X6_isAwake : GoodIn wsX6_strays (wsV RX6 46 RX6 yX6_isAwake wsX6_isAwake) := goodIn_app (goodIn_of _ (by decide +kernel)) ggX6_strays_X6_isAwake
set_option maxRecDepth 20000 in
theorem ggX6_strays_X6_nearerOf : GoodIn wsX6_strays wsX6_nearerOf := goodIn_r _ [13, 1, 14, 15, 16, 5, 17, 2, 3, 4, 6, 7, 8, 9, 18, 19, 20, 21, 22, 23, 24, 25, 26, 27, 28, 29, 30, 31, 32, 33, 34, 35, 36, 37, 38, 39, 40, 41, 42, 43, 44, 45, 46, 47] (by decide +kernel) (by decide +kernel)
set_option maxRecDepth 20000 in
theorem gX6_strays_X6_nearerOf : GoodIn wsX6_strays (wsV RX6 131 RX6 yX6_nearerOf wsX6_nearerOf) := goodIn_app (goodIn_of _ (by decide +kernel)) ggX6_strays_X6_nearerOf
theorem dX6_strays_0 : decode cX6_strays 0 = .ok (.iconst 0, 1) := by decide +kernel
theorem dX6_strays_1 : decode cX6_strays 1 = .ok (.istore_n 2, 1) := by decide +kernel
theorem dX6_strays_2 : decode cX6_strays 2 = .ok (.iconst 0, 1) := by decide +kernel
theorem dX6_strays_3 : decode cX6_strays 3 = .ok (.istore_n 3, 1) := by decide +kernel
theorem dX6_strays_4 : decode cX6_strays 4 = .ok (.iload_n 3, 1) := by decide +kernel
theorem dX6_strays_5 : decode cX6_strays 5 = .ok (.aload_n 0, 1) := by decide +kernel
theorem dX6_strays_6 : decode cX6_strays 6 = .ok (.getfield 7, 3) := by decide +kernel
theorem dX6_strays_9 : decode cX6_strays 9 = .ok (.iconst 0, 1) := by decide +kernel
theorem dX6_strays_10 : decode cX6_strays 10 = .ok (.iaload, 1) := by decide +kernel
theorem dX6_strays_11 : decode cX6_strays 11 = .ok (.if_icmp .ge 50, 3) := by decide +kernel
theorem dX6_strays_14 : decode cX6_strays 14 = .ok (.iload_n 2, 1) := by decide +kernel
theorem dX6_strays_15 : decode cX6_strays 15 = .ok (.iload_n 3, 1) := by decide +kernel
theorem dX6_strays_16 : decode cX6_strays 16 = .ok (.iload_n 1, 1) := by decide +kernel
theorem dX6_strays_17 : decode cX6_strays 17 = .ok (.if_icmp .eq 35, 3) := by decide +kernel
theorem dX6_strays_20 : decode cX6_strays 20 = .ok (.aload_n 0, 1) := by decide +kernel
theorem dX6_strays_21 : decode cX6_strays 21 = .ok (.iload_n 1, 1) := by decide +kernel
theorem dX6_strays_22 : decode cX6_strays 22 = .ok (.invokevirtual 46, 3) := by decide +kernel
theorem dX6_strays_25 : decode cX6_strays 25 = .ok (.ifCond .eq 27, 3) := by decide +kernel
theorem dX6_strays_28 : decode cX6_strays 28 = .ok (.aload_n 0, 1) := by decide +kernel
theorem dX6_strays_29 : decode cX6_strays 29 = .ok (.iload_n 3, 1) := by decide +kernel
theorem dX6_strays_30 : decode cX6_strays 30 = .ok (.invokevirtual 46, 3) := by decide +kernel
theorem dX6_strays_33 : decode cX6_strays 33 = .ok (.ifCond .eq 19, 3) := by decide +kernel
theorem dX6_strays_36 : decode cX6_strays 36 = .ok (.aload_n 0, 1) := by decide +kernel
theorem dX6_strays_37 : decode cX6_strays 37 = .ok (.iload_n 1, 1) := by decide +kernel
theorem dX6_strays_38 : decode cX6_strays 38 = .ok (.iload_n 3, 1) := by decide +kernel
theorem dX6_strays_39 : decode cX6_strays 39 = .ok (.invokevirtual 131, 3) := by decide +kernel
theorem dX6_strays_42 : decode cX6_strays 42 = .ok (.iconst (-1), 1) := by decide +kernel
theorem dX6_strays_43 : decode cX6_strays 43 = .ok (.if_icmp .ne 9, 3) := by decide +kernel
theorem dX6_strays_46 : decode cX6_strays 46 = .ok (.iconst 1, 1) := by decide +kernel
theorem dX6_strays_47 : decode cX6_strays 47 = .ok (.iload_n 3, 1) := by decide +kernel
theorem dX6_strays_48 : decode cX6_strays 48 = .ok (.ishl, 1) := by decide +kernel
theorem dX6_strays_49 : decode cX6_strays 49 = .ok (.goto 4, 3) := by decide +kernel
theorem dX6_strays_52 : decode cX6_strays 52 = .ok (.iconst 0, 1) := by decide +kernel
theorem dX6_strays_53 : decode cX6_strays 53 = .ok (.ior, 1) := by decide +kernel
theorem dX6_strays_54 : decode cX6_strays 54 = .ok (.istore_n 2, 1) := by decide +kernel
theorem dX6_strays_55 : decode cX6_strays 55 = .ok (.iinc 3 1, 3) := by decide +kernel
theorem dX6_strays_58 : decode cX6_strays 58 = .ok (.goto (-54), 3) := by decide +kernel
theorem dX6_strays_61 : decode cX6_strays 61 = .ok (.iload_n 2, 1) := by decide +kernel
theorem dX6_strays_62 : decode cX6_strays 62 = .ok (.ireturn, 1) := by decide +kernel
set_option maxRecDepth 20000 in
theorem ggX6_at_X6_isNode : GoodIn wsX6_at wsX6_isNode := goodIn_r _ [8, 2, 9, 10, 7, 11, 43, 44, 45, 46, 47, 48, 49, 50, 51, 52, 53, 54, 55, 56, 57, 58, 59, 60, 61, 62, 63, 64, 65, 66, 67, 68] (by decide +kernel) (by decide +kernel)
set_option maxRecDepth 20000 in
theorem gX6_at_X6_isNode : GoodIn wsX6_at (wsV RX6 152 RX6 yX6_isNode wsX6_isNode) := goodIn_app (goodIn_of _ (by decide +kernel)) ggX6_at_X6_isNode
set_option maxRecDepth 20000 in
theorem ggX6_at_X6_isAwake : GoodIn wsX6_at wsX6_isAwake := goodIn_r _ [15, 2, 16, 17, 7, 18, 43, 44, 45, 46, 47, 48, 49, 50, 51, 52, 53, 54, 55, 56, 57, 58, 59, 60, 61, 62, 63, 64, 65, 66, 67, 68] (by decide +kernel) (by decide +kernel)
set_option maxRecDepth 20000 in
theorem gX6_at_X6_isAwake : GoodIn wsX6_at (wsV RX6 46 RX6 yX6_isAwake wsX6_isAwake) := goodIn_app (goodIn_of _ (by decide +kernel)) ggX6_at_X6_isAwake
set_option maxRecDepth 20000 in
theorem ggX6_at_X6_setOf : GoodIn wsX6_at wsX6_setOf := goodIn_r _ [22, 2, 23, 24, 25, 7, 26, 27, 28, 29, 30, 12, 13, 14, 15, 16, 17, 18, 31, 32, 33, 34, 43, 44, 45, 46, 47, 48, 49, 50, 51, 52, 53, 54, 55, 56, 57, 58, 59, 60, 61, 62, 63, 64, 65, 66, 67, 68] (by decide +kernel) (by decide +kernel)
set_option maxRecDepth 20000 in
theorem gX6_at_X6_setOf : GoodIn wsX6_at (wsV RX6 84 RX6 yX6_setOf wsX6_setOf) := goodIn_app (goodIn_of _ (by decide +kernel)) ggX6_at_X6_setOf
set_option maxRecDepth 20000 in
theorem ggX6_at_X6_strays : GoodIn wsX6_at wsX6_strays := goodIn_r _ [38, 2, 12, 13, 14, 7, 15, 16, 17, 18, 39, 40, 41, 42, 27, 28, 29, 30, 31, 32, 33, 34, 43, 44, 45, 46, 47, 48, 49, 50, 51, 52, 53, 54, 55, 56, 57, 58, 59, 60, 61, 62, 63, 64, 65, 66, 67, 68] (by decide +kernel) (by decide +kernel)
set_option maxRecDepth 20000 in
theorem gX6_at_X6_strays : GoodIn wsX6_at (wsV RX6 186 RX6 yX6_strays wsX6_strays) := goodIn_app (goodIn_of _ (by decide +kernel)) ggX6_at_X6_strays
theorem dX6_at_0 : decode cX6_at 0 = .ok (.aload_n 0, 1) := by decide +kernel
theorem dX6_at_1 : decode cX6_at 1 = .ok (.iload_n 1, 1) := by decide +kernel
theorem dX6_at_2 : decode cX6_at 2 = .ok (.invokevirtual 152, 3) := by decide +kernel
theorem dX6_at_5 : decode cX6_at 5 = .ok (.ifCond .ne 6, 3) := by decide +kernel
theorem dX6_at_8 : decode cX6_at 8 = .ok (.ldc 185, 2) := by decide +kernel
theorem dX6_at_10 : decode cX6_at 10 = .ok (.ireturn, 1) := by decide +kernel
theorem dX6_at_11 : decode cX6_at 11 = .ok (.iload_n 2, 1) := by decide +kernel
theorem dX6_at_12 : decode cX6_at 12 = .ok (.tableswitch 93 0 5 #[40, 49, 59, 73, 80, 87], 40) := by decide +kernel
theorem dX6_at_52 : decode cX6_at 52 = .ok (.aload_n 0, 1) := by decide +kernel
theorem dX6_at_53 : decode cX6_at 53 = .ok (.getfield 7, 3) := by decide +kernel
theorem dX6_at_56 : decode cX6_at 56 = .ok (.iconst 4, 1) := by decide +kernel
theorem dX6_at_57 : decode cX6_at 57 = .ok (.iload_n 1, 1) := by decide +kernel
theorem dX6_at_58 : decode cX6_at 58 = .ok (.iadd, 1) := by decide +kernel
theorem dX6_at_59 : decode cX6_at 59 = .ok (.iaload, 1) := by decide +kernel
theorem dX6_at_60 : decode cX6_at 60 = .ok (.ireturn, 1) := by decide +kernel
theorem dX6_at_61 : decode cX6_at 61 = .ok (.aload_n 0, 1) := by decide +kernel
theorem dX6_at_62 : decode cX6_at 62 = .ok (.getfield 7, 3) := by decide +kernel
theorem dX6_at_65 : decode cX6_at 65 = .ok (.bipush 14, 2) := by decide +kernel
theorem dX6_at_67 : decode cX6_at 67 = .ok (.iload_n 1, 1) := by decide +kernel
theorem dX6_at_68 : decode cX6_at 68 = .ok (.iadd, 1) := by decide +kernel
theorem dX6_at_69 : decode cX6_at 69 = .ok (.iaload, 1) := by decide +kernel
theorem dX6_at_70 : decode cX6_at 70 = .ok (.ireturn, 1) := by decide +kernel
theorem dX6_at_71 : decode cX6_at 71 = .ok (.aload_n 0, 1) := by decide +kernel
theorem dX6_at_72 : decode cX6_at 72 = .ok (.iload_n 1, 1) := by decide +kernel
theorem dX6_at_73 : decode cX6_at 73 = .ok (.invokevirtual 46, 3) := by decide +kernel
theorem dX6_at_76 : decode cX6_at 76 = .ok (.ifCond .eq 7, 3) := by decide +kernel
theorem dX6_at_79 : decode cX6_at 79 = .ok (.iconst 1, 1) := by decide +kernel
theorem dX6_at_80 : decode cX6_at 80 = .ok (.goto 4, 3) := by decide +kernel
theorem dX6_at_83 : decode cX6_at 83 = .ok (.iconst 0, 1) := by decide +kernel
theorem dX6_at_84 : decode cX6_at 84 = .ok (.ireturn, 1) := by decide +kernel
theorem dX6_at_85 : decode cX6_at 85 = .ok (.aload_n 0, 1) := by decide +kernel
theorem dX6_at_86 : decode cX6_at 86 = .ok (.iload_n 1, 1) := by decide +kernel
theorem dX6_at_87 : decode cX6_at 87 = .ok (.iconst 0, 1) := by decide +kernel
theorem dX6_at_88 : decode cX6_at 88 = .ok (.invokevirtual 84, 3) := by decide +kernel
theorem dX6_at_91 : decode cX6_at 91 = .ok (.ireturn, 1) := by decide +kernel
theorem dX6_at_92 : decode cX6_at 92 = .ok (.aload_n 0, 1) := by decide +kernel
theorem dX6_at_93 : decode cX6_at 93 = .ok (.iload_n 1, 1) := by decide +kernel
theorem dX6_at_94 : decode cX6_at 94 = .ok (.iconst 1, 1) := by decide +kernel
theorem dX6_at_95 : decode cX6_at 95 = .ok (.invokevirtual 84, 3) := by decide +kernel
theorem dX6_at_98 : decode cX6_at 98 = .ok (.ireturn, 1) := by decide +kernel
theorem dX6_at_99 : decode cX6_at 99 = .ok (.aload_n 0, 1) := by decide +kernel
theorem dX6_at_100 : decode cX6_at 100 = .ok (.iload_n 1, 1) := by decide +kernel
theorem dX6_at_101 : decode cX6_at 101 = .ok (.invokevirtual 186, 3) := by decide +kernel
theorem dX6_at_104 : decode cX6_at 104 = .ok (.ireturn, 1) := by decide +kernel
theorem dX6_at_105 : decode cX6_at 105 = .ok (.ldc 184, 2) := by decide +kernel
theorem dX6_at_107 : decode cX6_at 107 = .ok (.ireturn, 1) := by decide +kernel
set_option maxRecDepth 20000 in
theorem ggX6_far_X6_isNode : GoodIn wsX6_far wsX6_isNode := goodIn_r _ [6, 7, 8, 9, 5, 10, 15, 16, 17, 18, 19, 20, 21, 22, 23, 24, 25, 26, 27, 28, 29, 30, 31, 32, 33, 34, 35, 36, 37, 38, 39, 40] (by decide +kernel) (by decide +kernel)
set_option maxRecDepth 20000 in
theorem gX6_far_X6_isNode : GoodIn wsX6_far (wsV RX6 152 RX6 yX6_isNode wsX6_isNode) := goodIn_app (goodIn_of _ (by decide +kernel)) ggX6_far_X6_isNode
set_option maxRecDepth 20000 in
theorem ggX6_far_X6_farOf : GoodIn wsX6_far wsX6_farOf := goodIn_r _ [14, 7, 15, 16, 17, 18, 19, 20, 21, 22, 23, 24, 25, 26, 27, 28, 29, 30, 31, 32, 33, 34, 35, 36, 37, 38, 39, 40] (by decide +kernel) (by decide +kernel)
set_option maxRecDepth 20000 in
theorem gX6_far_X6_farOf : GoodIn wsX6_far (wsV RX6 50 RX6 yX6_farOf wsX6_farOf) := goodIn_app (goodIn_of _ (by decide +kernel)) ggX6_far_X6_farOf
theorem dX6_far_0 : decode cX6_far 0 = .ok (.aload_n 0, 1) := by decide +kernel
theorem dX6_far_1 : decode cX6_far 1 = .ok (.iload_n 1, 1) := by decide +kernel
theorem dX6_far_2 : decode cX6_far 2 = .ok (.invokevirtual 152, 3) := by decide +kernel
theorem dX6_far_5 : decode cX6_far 5 = .ok (.ifCond .eq 20, 3) := by decide +kernel
theorem dX6_far_8 : decode cX6_far 8 = .ok (.aload_n 0, 1) := by decide +kernel
theorem dX6_far_9 : decode cX6_far 9 = .ok (.iload_n 2, 1) := by decide +kernel
theorem dX6_far_10 : decode cX6_far 10 = .ok (.invokevirtual 152, 3) := by decide +kernel
theorem dX6_far_13 : decode cX6_far 13 = .ok (.ifCond .eq 12, 3) := by decide +kernel
theorem dX6_far_16 : decode cX6_far 16 = .ok (.aload_n 0, 1) := by decide +kernel
theorem dX6_far_17 : decode cX6_far 17 = .ok (.iload_n 1, 1) := by decide +kernel
theorem dX6_far_18 : decode cX6_far 18 = .ok (.iload_n 2, 1) := by decide +kernel
theorem dX6_far_19 : decode cX6_far 19 = .ok (.invokevirtual 50, 3) := by decide +kernel
theorem dX6_far_22 : decode cX6_far 22 = .ok (.goto 5, 3) := by decide +kernel
theorem dX6_far_25 : decode cX6_far 25 = .ok (.ldc 185, 2) := by decide +kernel
theorem dX6_far_27 : decode cX6_far 27 = .ok (.ireturn, 1) := by decide +kernel
set_option maxRecDepth 20000 in
theorem ggX6_areTwo_X6_isNode : GoodIn wsX6_areTwo wsX6_isNode := goodIn_r _ [5, 6, 7, 8, 4, 9, 10, 11, 12, 13, 14, 15, 16, 17, 18, 19, 20, 21, 22, 23, 24, 25, 26, 27, 28, 29, 30, 31, 32, 33, 34, 35] (by decide +kernel) (by decide +kernel)
set_option maxRecDepth 20000 in
theorem gX6_areTwo_X6_isNode : GoodIn wsX6_areTwo (wsV RX6 152 RX6 yX6_isNode wsX6_isNode) := goodIn_app (goodIn_of _ (by decide +kernel)) ggX6_areTwo_X6_isNode
theorem dX6_areTwo_0 : decode cX6_areTwo 0 = .ok (.aload_n 0, 1) := by decide +kernel
theorem dX6_areTwo_1 : decode cX6_areTwo 1 = .ok (.iload_n 1, 1) := by decide +kernel
theorem dX6_areTwo_2 : decode cX6_areTwo 2 = .ok (.invokevirtual 152, 3) := by decide +kernel
theorem dX6_areTwo_5 : decode cX6_areTwo 5 = .ok (.ifCond .eq 20, 3) := by decide +kernel
theorem dX6_areTwo_8 : decode cX6_areTwo 8 = .ok (.aload_n 0, 1) := by decide +kernel
theorem dX6_areTwo_9 : decode cX6_areTwo 9 = .ok (.iload_n 2, 1) := by decide +kernel
theorem dX6_areTwo_10 : decode cX6_areTwo 10 = .ok (.invokevirtual 152, 3) := by decide +kernel
theorem dX6_areTwo_13 : decode cX6_areTwo 13 = .ok (.ifCond .eq 12, 3) := by decide +kernel
theorem dX6_areTwo_16 : decode cX6_areTwo 16 = .ok (.iload_n 1, 1) := by decide +kernel
theorem dX6_areTwo_17 : decode cX6_areTwo 17 = .ok (.iload_n 2, 1) := by decide +kernel
theorem dX6_areTwo_18 : decode cX6_areTwo 18 = .ok (.if_icmp .eq 7, 3) := by decide +kernel
theorem dX6_areTwo_21 : decode cX6_areTwo 21 = .ok (.iconst 1, 1) := by decide +kernel
theorem dX6_areTwo_22 : decode cX6_areTwo 22 = .ok (.goto 4, 3) := by decide +kernel
theorem dX6_areTwo_25 : decode cX6_areTwo 25 = .ok (.iconst 0, 1) := by decide +kernel
theorem dX6_areTwo_26 : decode cX6_areTwo 26 = .ok (.ireturn, 1) := by decide +kernel
set_option maxRecDepth 20000 in
theorem ggX6_turning_X6_areTwo : GoodIn wsX6_turning wsX6_areTwo := goodIn_r _ [6, 7, 8, 9, 5, 10, 11, 12, 13, 14, 54, 55, 56, 57, 58, 59, 60, 61, 62, 63, 64, 65, 66, 67, 68, 69, 70, 71, 72, 73, 74, 75, 76, 77, 78, 79] (by decide +kernel) (by decide +kernel)
set_option maxRecDepth 20000 in
theorem gX6_turning_X6_areTwo : GoodIn wsX6_turning (wsV RX6 190 RX6 yX6_areTwo wsX6_areTwo) := goodIn_app (goodIn_of _ (by decide +kernel)) ggX6_turning_X6_areTwo
set_option maxRecDepth 20000 in
theorem ggX6_turning_X6_turned : GoodIn wsX6_turning wsX6_turned := goodIn_r _ [18, 19, 20, 21, 5, 22, 11, 23, 24, 25, 26, 27, 28, 29, 30, 31, 32, 33, 34, 35, 36, 37, 38, 39, 40, 41, 42, 43, 44, 45, 46, 47, 48, 49, 50, 51, 52, 53, 54, 55, 56, 57, 58, 59, 60, 61, 62, 63, 64, 65, 66, 67, 68, 69, 70, 71, 72, 73, 74, 75, 76, 77, 78, 79] (by decide +kernel) (by decide +kernel)
set_option maxRecDepth 20000 in
theorem gX6_turning_X6_turned : GoodIn wsX6_turning (wsV RX6 74 RX6 yX6_turned wsX6_turned) := goodIn_app (goodIn_of _ (by decide +kernel)) ggX6_turning_X6_turned
theorem dX6_turning_0 : decode cX6_turning 0 = .ok (.aload_n 0, 1) := by decide +kernel
theorem dX6_turning_1 : decode cX6_turning 1 = .ok (.iload_n 1, 1) := by decide +kernel
theorem dX6_turning_2 : decode cX6_turning 2 = .ok (.iload_n 2, 1) := by decide +kernel
theorem dX6_turning_3 : decode cX6_turning 3 = .ok (.invokevirtual 190, 3) := by decide +kernel
theorem dX6_turning_6 : decode cX6_turning 6 = .ok (.ifCond .eq 12, 3) := by decide +kernel
theorem dX6_turning_9 : decode cX6_turning 9 = .ok (.aload_n 0, 1) := by decide +kernel
theorem dX6_turning_10 : decode cX6_turning 10 = .ok (.iload_n 1, 1) := by decide +kernel
theorem dX6_turning_11 : decode cX6_turning 11 = .ok (.iload_n 2, 1) := by decide +kernel
theorem dX6_turning_12 : decode cX6_turning 12 = .ok (.invokevirtual 74, 3) := by decide +kernel
theorem dX6_turning_15 : decode cX6_turning 15 = .ok (.goto 5, 3) := by decide +kernel
theorem dX6_turning_18 : decode cX6_turning 18 = .ok (.ldc 185, 2) := by decide +kernel
theorem dX6_turning_20 : decode cX6_turning 20 = .ok (.ireturn, 1) := by decide +kernel
set_option maxRecDepth 20000 in
theorem ggX6_face_X6_areTwo : GoodIn wsX6_face wsX6_areTwo := goodIn_r _ [6, 7, 8, 9, 5, 10, 11, 12, 13, 14, 58, 59, 60, 61, 62, 63, 64, 65, 66, 67, 68, 69, 70, 71, 72, 73, 74, 75, 76, 77, 78, 79, 80, 81, 82, 83] (by decide +kernel) (by decide +kernel)
set_option maxRecDepth 20000 in
theorem gX6_face_X6_areTwo : GoodIn wsX6_face (wsV RX6 190 RX6 yX6_areTwo wsX6_areTwo) := goodIn_app (goodIn_of _ (by decide +kernel)) ggX6_face_X6_areTwo
set_option maxRecDepth 20000 in
theorem ggX6_face_X6_areThin : GoodIn wsX6_face wsX6_areThin := goodIn_r _ [18, 11, 19, 20, 21, 5, 22, 23, 24, 25, 26, 27, 28, 29, 30, 31, 32, 33, 58, 59, 60, 61, 62, 63, 64, 65, 66, 67, 68, 69, 70, 71, 72, 73, 74, 75, 76, 77, 78, 79, 80, 81, 82, 83] (by decide +kernel) (by decide +kernel)
set_option maxRecDepth 20000 in
theorem gX6_face_X6_areThin : GoodIn wsX6_face (wsV RX6 57 RX6 yX6_areThin wsX6_areThin) := goodIn_app (goodIn_of _ (by decide +kernel)) ggX6_face_X6_areThin
set_option maxRecDepth 20000 in
theorem ggX6_face_X6_faceOf : GoodIn wsX6_face wsX6_faceOf := goodIn_r _ [37, 38, 39, 40, 5, 41, 42, 43, 44, 45, 11, 15, 16, 17, 18, 19, 20, 21, 22, 23, 24, 25, 26, 27, 28, 29, 30, 31, 32, 33, 46, 47, 48, 49, 50, 51, 52, 53, 54, 55, 56, 57, 58, 59, 60, 61, 62, 63, 64, 65, 66, 67, 68, 69, 70, 71, 72, 73, 74, 75, 76, 77, 78, 79, 80, 81, 82, 83] (by decide +kernel) (by decide +kernel)
set_option maxRecDepth 20000 in
theorem gX6_face_X6_faceOf : GoodIn wsX6_face (wsV RX6 193 RX6 yX6_faceOf wsX6_faceOf) := goodIn_app (goodIn_of _ (by decide +kernel)) ggX6_face_X6_faceOf
theorem dX6_face_0 : decode cX6_face 0 = .ok (.aload_n 0, 1) := by decide +kernel
theorem dX6_face_1 : decode cX6_face 1 = .ok (.iload_n 1, 1) := by decide +kernel
theorem dX6_face_2 : decode cX6_face 2 = .ok (.iload_n 2, 1) := by decide +kernel
theorem dX6_face_3 : decode cX6_face 3 = .ok (.invokevirtual 190, 3) := by decide +kernel
theorem dX6_face_6 : decode cX6_face 6 = .ok (.ifCond .ne 8, 3) := by decide +kernel
theorem dX6_face_9 : decode cX6_face 9 = .ok (.ldc 185, 2) := by decide +kernel
theorem dX6_face_11 : decode cX6_face 11 = .ok (.goto 22, 3) := by decide +kernel
theorem dX6_face_14 : decode cX6_face 14 = .ok (.aload_n 0, 1) := by decide +kernel
theorem dX6_face_15 : decode cX6_face 15 = .ok (.iload_n 1, 1) := by decide +kernel
theorem dX6_face_16 : decode cX6_face 16 = .ok (.iload_n 2, 1) := by decide +kernel
theorem dX6_face_17 : decode cX6_face 17 = .ok (.invokevirtual 57, 3) := by decide +kernel
theorem dX6_face_20 : decode cX6_face 20 = .ok (.ifCond .eq 12, 3) := by decide +kernel
theorem dX6_face_23 : decode cX6_face 23 = .ok (.aload_n 0, 1) := by decide +kernel
theorem dX6_face_24 : decode cX6_face 24 = .ok (.iload_n 1, 1) := by decide +kernel
theorem dX6_face_25 : decode cX6_face 25 = .ok (.iload_n 2, 1) := by decide +kernel
theorem dX6_face_26 : decode cX6_face 26 = .ok (.invokevirtual 193, 3) := by decide +kernel
theorem dX6_face_29 : decode cX6_face 29 = .ok (.goto 4, 3) := by decide +kernel
theorem dX6_face_32 : decode cX6_face 32 = .ok (.iconst (-1), 1) := by decide +kernel
