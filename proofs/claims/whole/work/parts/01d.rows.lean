theorem dX6_face_33 : decode cX6_face 33 = .ok (.ireturn, 1) := by decide +kernel
theorem dX6_stoodSet_0 : decode cX6_stoodSet 0 = .ok (.iconst 0, 1) := by decide +kernel
theorem dX6_stoodSet_1 : decode cX6_stoodSet 1 = .ok (.istore_n 1, 1) := by decide +kernel
theorem dX6_stoodSet_2 : decode cX6_stoodSet 2 = .ok (.iconst 0, 1) := by decide +kernel
theorem dX6_stoodSet_3 : decode cX6_stoodSet 3 = .ok (.istore_n 2, 1) := by decide +kernel
theorem dX6_stoodSet_4 : decode cX6_stoodSet 4 = .ok (.iload_n 2, 1) := by decide +kernel
theorem dX6_stoodSet_5 : decode cX6_stoodSet 5 = .ok (.aload_n 0, 1) := by decide +kernel
theorem dX6_stoodSet_6 : decode cX6_stoodSet 6 = .ok (.getfield 112, 3) := by decide +kernel
theorem dX6_stoodSet_9 : decode cX6_stoodSet 9 = .ok (.if_icmp .gt 20, 3) := by decide +kernel
theorem dX6_stoodSet_12 : decode cX6_stoodSet 12 = .ok (.iload_n 1, 1) := by decide +kernel
theorem dX6_stoodSet_13 : decode cX6_stoodSet 13 = .ok (.iconst 1, 1) := by decide +kernel
theorem dX6_stoodSet_14 : decode cX6_stoodSet 14 = .ok (.aload_n 0, 1) := by decide +kernel
theorem dX6_stoodSet_15 : decode cX6_stoodSet 15 = .ok (.getfield 32, 3) := by decide +kernel
theorem dX6_stoodSet_18 : decode cX6_stoodSet 18 = .ok (.iload_n 2, 1) := by decide +kernel
theorem dX6_stoodSet_19 : decode cX6_stoodSet 19 = .ok (.iaload, 1) := by decide +kernel
theorem dX6_stoodSet_20 : decode cX6_stoodSet 20 = .ok (.ishl, 1) := by decide +kernel
theorem dX6_stoodSet_21 : decode cX6_stoodSet 21 = .ok (.ior, 1) := by decide +kernel
theorem dX6_stoodSet_22 : decode cX6_stoodSet 22 = .ok (.istore_n 1, 1) := by decide +kernel
theorem dX6_stoodSet_23 : decode cX6_stoodSet 23 = .ok (.iinc 2 1, 3) := by decide +kernel
theorem dX6_stoodSet_26 : decode cX6_stoodSet 26 = .ok (.goto (-22), 3) := by decide +kernel
theorem dX6_stoodSet_29 : decode cX6_stoodSet 29 = .ok (.iload_n 1, 1) := by decide +kernel
theorem dX6_stoodSet_30 : decode cX6_stoodSet 30 = .ok (.ireturn, 1) := by decide +kernel
set_option maxRecDepth 20000 in
theorem ggX6_way_X6_isNode : GoodIn wsX6_way wsX6_isNode := goodIn_r _ [13, 14, 15, 16, 12, 17, 92, 93, 94, 95, 96, 97, 98, 99, 100, 101, 102, 103, 104, 105, 106, 107, 108, 109, 110, 111, 112, 113, 114, 115, 116, 117] (by decide +kernel) (by decide +kernel)
set_option maxRecDepth 20000 in
theorem gX6_way_X6_isNode : GoodIn wsX6_way (wsV RX6 152 RX6 yX6_isNode wsX6_isNode) := goodIn_app (goodIn_of _ (by decide +kernel)) ggX6_way_X6_isNode
set_option maxRecDepth 20000 in
theorem ggX6_way_X6_in : GoodIn wsX6_way wsX6_in := goodIn_r _ [17] (by decide +kernel) (by decide +kernel)
set_option maxRecDepth 20000 in
theorem gX6_way_X6_in : GoodIn wsX6_way (va_wsS RX6 38 yX6_in wsX6_in) := goodIn_app (goodIn_of _ (by decide +kernel)) ggX6_way_X6_in
set_option maxRecDepth 20000 in
theorem ggX6_way_X6_isAwake : GoodIn wsX6_way wsX6_isAwake := goodIn_r _ [21, 14, 22, 23, 12, 24, 92, 93, 94, 95, 96, 97, 98, 99, 100, 101, 102, 103, 104, 105, 106, 107, 108, 109, 110, 111, 112, 113, 114, 115, 116, 117] (by decide +kernel) (by decide +kernel)
set_option maxRecDepth 20000 in
theorem gX6_way_X6_isAwake : GoodIn wsX6_way (wsV RX6 46 RX6 yX6_isAwake wsX6_isAwake) := goodIn_app (goodIn_of _ (by decide +kernel)) ggX6_way_X6_isAwake
set_option maxRecDepth 20000 in
theorem ggX6_way_X6_walks : GoodIn wsX6_way wsX6_walks := goodIn_r _ [28, 6, 29, 4, 5, 7, 8, 30, 31, 32, 33, 34, 35, 36, 37, 38, 12, 39, 14, 40, 41, 42, 43, 18, 19, 20, 21, 22, 23, 24, 44, 45, 46, 47, 48, 49, 50, 51, 52, 53, 54, 55, 56, 57, 58, 59, 60, 61, 62, 63, 64, 65, 66, 67, 68, 69, 70, 71, 72, 73, 74, 75, 76, 77, 78, 79, 80, 81, 82, 83, 84, 85, 86, 87, 92, 93, 94, 95, 96, 97, 98, 99, 100, 101, 102, 103, 104, 105, 106, 107, 108, 109, 110, 111, 112, 113, 114, 115, 116, 117] (by decide +kernel) (by decide +kernel)
set_option maxRecDepth 20000 in
theorem gX6_way_X6_walks : GoodIn wsX6_way (wsV RX6 145 RX6 yX6_walks wsX6_walks) := goodIn_app (goodIn_of _ (by decide +kernel)) ggX6_way_X6_walks
set_option maxRecDepth 20000 in
theorem ggX6_way_X6_stoodSet : GoodIn wsX6_way wsX6_stoodSet := goodIn_r _ [91, 6, 29, 92, 93, 94, 95, 96, 97, 98, 99, 100, 101, 102, 103, 104, 105, 106, 107, 108, 109, 110, 111, 112, 113, 114, 115, 116, 117] (by decide +kernel) (by decide +kernel)
set_option maxRecDepth 20000 in
theorem gX6_way_X6_stoodSet : GoodIn wsX6_way (wsV RX6 197 RX6 yX6_stoodSet wsX6_stoodSet) := goodIn_app (goodIn_of _ (by decide +kernel)) ggX6_way_X6_stoodSet
theorem dX6_way_0 : decode cX6_way 0 = .ok (.aload_n 0, 1) := by decide +kernel
theorem dX6_way_1 : decode cX6_way 1 = .ok (.iload_n 1, 1) := by decide +kernel
theorem dX6_way_2 : decode cX6_way 2 = .ok (.invokevirtual 152, 3) := by decide +kernel
theorem dX6_way_5 : decode cX6_way 5 = .ok (.ifCond .eq 11, 3) := by decide +kernel
theorem dX6_way_8 : decode cX6_way 8 = .ok (.aload_n 0, 1) := by decide +kernel
theorem dX6_way_9 : decode cX6_way 9 = .ok (.iload_n 2, 1) := by decide +kernel
theorem dX6_way_10 : decode cX6_way 10 = .ok (.invokevirtual 152, 3) := by decide +kernel
theorem dX6_way_13 : decode cX6_way 13 = .ok (.ifCond .ne 6, 3) := by decide +kernel
theorem dX6_way_16 : decode cX6_way 16 = .ok (.ldc 185, 2) := by decide +kernel
theorem dX6_way_18 : decode cX6_way 18 = .ok (.ireturn, 1) := by decide +kernel
theorem dX6_way_19 : decode cX6_way 19 = .ok (.iload_n 3, 1) := by decide +kernel
theorem dX6_way_20 : decode cX6_way 20 = .ok (.iconst 0, 1) := by decide +kernel
theorem dX6_way_21 : decode cX6_way 21 = .ok (.iconst 5, 1) := by decide +kernel
theorem dX6_way_22 : decode cX6_way 22 = .ok (.invokestatic 38, 3) := by decide +kernel
theorem dX6_way_25 : decode cX6_way 25 = .ok (.ifCond .ne 6, 3) := by decide +kernel
theorem dX6_way_28 : decode cX6_way 28 = .ok (.ldc 184, 2) := by decide +kernel
theorem dX6_way_30 : decode cX6_way 30 = .ok (.ireturn, 1) := by decide +kernel
theorem dX6_way_31 : decode cX6_way 31 = .ok (.aload_n 0, 1) := by decide +kernel
theorem dX6_way_32 : decode cX6_way 32 = .ok (.iload_n 1, 1) := by decide +kernel
theorem dX6_way_33 : decode cX6_way 33 = .ok (.invokevirtual 46, 3) := by decide +kernel
theorem dX6_way_36 : decode cX6_way 36 = .ok (.ifCond .eq 11, 3) := by decide +kernel
theorem dX6_way_39 : decode cX6_way 39 = .ok (.aload_n 0, 1) := by decide +kernel
theorem dX6_way_40 : decode cX6_way 40 = .ok (.iload_n 2, 1) := by decide +kernel
theorem dX6_way_41 : decode cX6_way 41 = .ok (.invokevirtual 46, 3) := by decide +kernel
theorem dX6_way_44 : decode cX6_way 44 = .ok (.ifCond .ne 6, 3) := by decide +kernel
theorem dX6_way_47 : decode cX6_way 47 = .ok (.ldc 196, 2) := by decide +kernel
theorem dX6_way_49 : decode cX6_way 49 = .ok (.ireturn, 1) := by decide +kernel
theorem dX6_way_50 : decode cX6_way 50 = .ok (.aload_n 0, 1) := by decide +kernel
theorem dX6_way_51 : decode cX6_way 51 = .ok (.iload_n 1, 1) := by decide +kernel
theorem dX6_way_52 : decode cX6_way 52 = .ok (.iload_n 2, 1) := by decide +kernel
theorem dX6_way_53 : decode cX6_way 53 = .ok (.invokevirtual 145, 3) := by decide +kernel
theorem dX6_way_56 : decode cX6_way 56 = .ok (.iload_n 3, 1) := by decide +kernel
theorem dX6_way_57 : decode cX6_way 57 = .ok (.tableswitch 79 0 4 #[35, 59, 64, 69, 74], 35) := by decide +kernel
theorem dX6_way_92 : decode cX6_way 92 = .ok (.aload_n 0, 1) := by decide +kernel
theorem dX6_way_93 : decode cX6_way 93 = .ok (.getfield 121, 3) := by decide +kernel
theorem dX6_way_96 : decode cX6_way 96 = .ok (.ifCond .eq 7, 3) := by decide +kernel
theorem dX6_way_99 : decode cX6_way 99 = .ok (.iconst 2, 1) := by decide +kernel
theorem dX6_way_100 : decode cX6_way 100 = .ok (.goto 15, 3) := by decide +kernel
theorem dX6_way_103 : decode cX6_way 103 = .ok (.aload_n 0, 1) := by decide +kernel
theorem dX6_way_104 : decode cX6_way 104 = .ok (.getfield 125, 3) := by decide +kernel
theorem dX6_way_107 : decode cX6_way 107 = .ok (.ifCond .le 7, 3) := by decide +kernel
theorem dX6_way_110 : decode cX6_way 110 = .ok (.iconst 1, 1) := by decide +kernel
theorem dX6_way_111 : decode cX6_way 111 = .ok (.goto 4, 3) := by decide +kernel
theorem dX6_way_114 : decode cX6_way 114 = .ok (.iconst 0, 1) := by decide +kernel
theorem dX6_way_115 : decode cX6_way 115 = .ok (.ireturn, 1) := by decide +kernel
theorem dX6_way_116 : decode cX6_way 116 = .ok (.aload_n 0, 1) := by decide +kernel
theorem dX6_way_117 : decode cX6_way 117 = .ok (.getfield 112, 3) := by decide +kernel
theorem dX6_way_120 : decode cX6_way 120 = .ok (.ireturn, 1) := by decide +kernel
theorem dX6_way_121 : decode cX6_way 121 = .ok (.aload_n 0, 1) := by decide +kernel
theorem dX6_way_122 : decode cX6_way 122 = .ok (.getfield 125, 3) := by decide +kernel
theorem dX6_way_125 : decode cX6_way 125 = .ok (.ireturn, 1) := by decide +kernel
theorem dX6_way_126 : decode cX6_way 126 = .ok (.aload_n 0, 1) := by decide +kernel
theorem dX6_way_127 : decode cX6_way 127 = .ok (.getfield 118, 3) := by decide +kernel
theorem dX6_way_130 : decode cX6_way 130 = .ok (.ireturn, 1) := by decide +kernel
theorem dX6_way_131 : decode cX6_way 131 = .ok (.aload_n 0, 1) := by decide +kernel
theorem dX6_way_132 : decode cX6_way 132 = .ok (.getfield 128, 3) := by decide +kernel
theorem dX6_way_135 : decode cX6_way 135 = .ok (.ireturn, 1) := by decide +kernel
theorem dX6_way_136 : decode cX6_way 136 = .ok (.aload_n 0, 1) := by decide +kernel
theorem dX6_way_137 : decode cX6_way 137 = .ok (.invokevirtual 197, 3) := by decide +kernel
theorem dX6_way_140 : decode cX6_way 140 = .ok (.ireturn, 1) := by decide +kernel
set_option maxRecDepth 20000 in
theorem ggX6_step_X6_isNode : GoodIn wsX6_step wsX6_isNode := goodIn_r _ [10, 11, 12, 13, 9, 14, 88, 89, 90, 91, 92, 93, 94, 95, 96, 97, 98, 99, 100, 101, 102, 103, 104, 105, 106, 107, 108, 109, 110, 111, 112, 113] (by decide +kernel) (by decide +kernel)
set_option maxRecDepth 20000 in
theorem gX6_step_X6_isNode : GoodIn wsX6_step (wsV RX6 152 RX6 yX6_isNode wsX6_isNode) := goodIn_app (goodIn_of _ (by decide +kernel)) ggX6_step_X6_isNode
set_option maxRecDepth 20000 in
theorem ggX6_step_X6_isAwake : GoodIn wsX6_step wsX6_isAwake := goodIn_r _ [18, 11, 19, 20, 9, 21, 88, 89, 90, 91, 92, 93, 94, 95, 96, 97, 98, 99, 100, 101, 102, 103, 104, 105, 106, 107, 108, 109, 110, 111, 112, 113] (by decide +kernel) (by decide +kernel)
set_option maxRecDepth 20000 in
theorem gX6_step_X6_isAwake : GoodIn wsX6_step (wsV RX6 46 RX6 yX6_isAwake wsX6_isAwake) := goodIn_app (goodIn_of _ (by decide +kernel)) ggX6_step_X6_isAwake
set_option maxRecDepth 20000 in
theorem ggX6_step_X6_walks : GoodIn wsX6_step wsX6_walks := goodIn_r _ [25, 4, 5, 26, 27, 28, 29, 30, 31, 32, 33, 34, 35, 36, 37, 38, 9, 39, 11, 40, 41, 42, 43, 15, 16, 17, 18, 19, 20, 21, 44, 45, 46, 47, 48, 49, 50, 51, 52, 53, 54, 55, 56, 57, 58, 59, 60, 61, 62, 63, 64, 65, 66, 67, 68, 69, 70, 71, 72, 73, 74, 75, 76, 77, 78, 79, 80, 81, 82, 83, 84, 85, 86, 87, 88, 89, 90, 91, 92, 93, 94, 95, 96, 97, 98, 99, 100, 101, 102, 103, 104, 105, 106, 107, 108, 109, 110, 111, 112, 113] (by decide +kernel) (by decide +kernel)
set_option maxRecDepth 20000 in
theorem gX6_step_X6_walks : GoodIn wsX6_step (wsV RX6 145 RX6 yX6_walks wsX6_walks) := goodIn_app (goodIn_of _ (by decide +kernel)) ggX6_step_X6_walks
theorem dX6_step_0 : decode cX6_step 0 = .ok (.aload_n 0, 1) := by decide +kernel
theorem dX6_step_1 : decode cX6_step 1 = .ok (.iload_n 1, 1) := by decide +kernel
theorem dX6_step_2 : decode cX6_step 2 = .ok (.invokevirtual 152, 3) := by decide +kernel
theorem dX6_step_5 : decode cX6_step 5 = .ok (.ifCond .eq 11, 3) := by decide +kernel
theorem dX6_step_8 : decode cX6_step 8 = .ok (.aload_n 0, 1) := by decide +kernel
theorem dX6_step_9 : decode cX6_step 9 = .ok (.iload_n 2, 1) := by decide +kernel
theorem dX6_step_10 : decode cX6_step 10 = .ok (.invokevirtual 152, 3) := by decide +kernel
theorem dX6_step_13 : decode cX6_step 13 = .ok (.ifCond .ne 6, 3) := by decide +kernel
theorem dX6_step_16 : decode cX6_step 16 = .ok (.ldc 185, 2) := by decide +kernel
theorem dX6_step_18 : decode cX6_step 18 = .ok (.ireturn, 1) := by decide +kernel
theorem dX6_step_19 : decode cX6_step 19 = .ok (.iload_n 3, 1) := by decide +kernel
theorem dX6_step_20 : decode cX6_step 20 = .ok (.ifCond .ge 6, 3) := by decide +kernel
theorem dX6_step_23 : decode cX6_step 23 = .ok (.ldc 184, 2) := by decide +kernel
theorem dX6_step_25 : decode cX6_step 25 = .ok (.ireturn, 1) := by decide +kernel
theorem dX6_step_26 : decode cX6_step 26 = .ok (.aload_n 0, 1) := by decide +kernel
theorem dX6_step_27 : decode cX6_step 27 = .ok (.iload_n 1, 1) := by decide +kernel
theorem dX6_step_28 : decode cX6_step 28 = .ok (.invokevirtual 46, 3) := by decide +kernel
theorem dX6_step_31 : decode cX6_step 31 = .ok (.ifCond .eq 11, 3) := by decide +kernel
theorem dX6_step_34 : decode cX6_step 34 = .ok (.aload_n 0, 1) := by decide +kernel
theorem dX6_step_35 : decode cX6_step 35 = .ok (.iload_n 2, 1) := by decide +kernel
theorem dX6_step_36 : decode cX6_step 36 = .ok (.invokevirtual 46, 3) := by decide +kernel
theorem dX6_step_39 : decode cX6_step 39 = .ok (.ifCond .ne 6, 3) := by decide +kernel
theorem dX6_step_42 : decode cX6_step 42 = .ok (.ldc 196, 2) := by decide +kernel
theorem dX6_step_44 : decode cX6_step 44 = .ok (.ireturn, 1) := by decide +kernel
theorem dX6_step_45 : decode cX6_step 45 = .ok (.aload_n 0, 1) := by decide +kernel
theorem dX6_step_46 : decode cX6_step 46 = .ok (.iload_n 1, 1) := by decide +kernel
theorem dX6_step_47 : decode cX6_step 47 = .ok (.iload_n 2, 1) := by decide +kernel
theorem dX6_step_48 : decode cX6_step 48 = .ok (.invokevirtual 145, 3) := by decide +kernel
theorem dX6_step_51 : decode cX6_step 51 = .ok (.iload_n 3, 1) := by decide +kernel
theorem dX6_step_52 : decode cX6_step 52 = .ok (.aload_n 0, 1) := by decide +kernel
theorem dX6_step_53 : decode cX6_step 53 = .ok (.getfield 112, 3) := by decide +kernel
theorem dX6_step_56 : decode cX6_step 56 = .ok (.if_icmp .gt 12, 3) := by decide +kernel
theorem dX6_step_59 : decode cX6_step 59 = .ok (.aload_n 0, 1) := by decide +kernel
theorem dX6_step_60 : decode cX6_step 60 = .ok (.getfield 32, 3) := by decide +kernel
theorem dX6_step_63 : decode cX6_step 63 = .ok (.iload_n 3, 1) := by decide +kernel
theorem dX6_step_64 : decode cX6_step 64 = .ok (.iaload, 1) := by decide +kernel
theorem dX6_step_65 : decode cX6_step 65 = .ok (.goto 4, 3) := by decide +kernel
theorem dX6_step_68 : decode cX6_step 68 = .ok (.iconst (-1), 1) := by decide +kernel
theorem dX6_step_69 : decode cX6_step 69 = .ok (.ireturn, 1) := by decide +kernel
set_option maxRecDepth 20000 in
theorem ggX6_hops_X6_isNode : GoodIn wsX6_hops wsX6_isNode := goodIn_r _ [8, 3, 9, 10, 7, 11, 35, 36, 37, 38, 39, 40, 41, 42, 43, 44, 45, 46, 47, 48, 49, 50, 51, 52, 53, 54, 55, 56, 57, 58, 59, 60] (by decide +kernel) (by decide +kernel)
set_option maxRecDepth 20000 in
theorem gX6_hops_X6_isNode : GoodIn wsX6_hops (wsV RX6 152 RX6 yX6_isNode wsX6_isNode) := goodIn_app (goodIn_of _ (by decide +kernel)) ggX6_hops_X6_isNode
set_option maxRecDepth 20000 in
theorem ggX6_hops_X6_isAwake : GoodIn wsX6_hops wsX6_isAwake := goodIn_r _ [15, 3, 16, 17, 7, 18, 35, 36, 37, 38, 39, 40, 41, 42, 43, 44, 45, 46, 47, 48, 49, 50, 51, 52, 53, 54, 55, 56, 57, 58, 59, 60] (by decide +kernel) (by decide +kernel)
set_option maxRecDepth 20000 in
theorem gX6_hops_X6_isAwake : GoodIn wsX6_hops (wsV RX6 46 RX6 yX6_isAwake wsX6_isAwake) := goodIn_app (goodIn_of _ (by decide +kernel)) ggX6_hops_X6_isAwake
set_option maxRecDepth 20000 in
theorem ggX6_hops_X6_has : GoodIn wsX6_hops wsX6_has := goodIn_r _ [18] (by decide +kernel) (by decide +kernel)
set_option maxRecDepth 20000 in
theorem gX6_hops_X6_has : GoodIn wsX6_hops (va_wsS RX6 42 yX6_has wsX6_has) := goodIn_app (goodIn_of _ (by decide +kernel)) ggX6_hops_X6_has
set_option maxRecDepth 20000 in
theorem ggX6_hops_X6_setOf : GoodIn wsX6_hops wsX6_setOf := goodIn_r _ [22, 3, 23, 24, 25, 7, 26, 27, 28, 29, 30, 12, 13, 14, 15, 16, 17, 18, 31, 32, 33, 34, 35, 36, 37, 38, 39, 40, 41, 42, 43, 44, 45, 46, 47, 48, 49, 50, 51, 52, 53, 54, 55, 56, 57, 58, 59, 60] (by decide +kernel) (by decide +kernel)
set_option maxRecDepth 20000 in
theorem gX6_hops_X6_setOf : GoodIn wsX6_hops (wsV RX6 84 RX6 yX6_setOf wsX6_setOf) := goodIn_app (goodIn_of _ (by decide +kernel)) ggX6_hops_X6_setOf
theorem dX6_hops_0 : decode cX6_hops 0 = .ok (.aload_n 0, 1) := by decide +kernel
theorem dX6_hops_1 : decode cX6_hops 1 = .ok (.iload_n 1, 1) := by decide +kernel
theorem dX6_hops_2 : decode cX6_hops 2 = .ok (.invokevirtual 152, 3) := by decide +kernel
theorem dX6_hops_5 : decode cX6_hops 5 = .ok (.ifCond .eq 11, 3) := by decide +kernel
theorem dX6_hops_8 : decode cX6_hops 8 = .ok (.aload_n 0, 1) := by decide +kernel
theorem dX6_hops_9 : decode cX6_hops 9 = .ok (.iload_n 2, 1) := by decide +kernel
theorem dX6_hops_10 : decode cX6_hops 10 = .ok (.invokevirtual 152, 3) := by decide +kernel
theorem dX6_hops_13 : decode cX6_hops 13 = .ok (.ifCond .ne 6, 3) := by decide +kernel
theorem dX6_hops_16 : decode cX6_hops 16 = .ok (.ldc 185, 2) := by decide +kernel
theorem dX6_hops_18 : decode cX6_hops 18 = .ok (.ireturn, 1) := by decide +kernel
theorem dX6_hops_19 : decode cX6_hops 19 = .ok (.aload_n 0, 1) := by decide +kernel
theorem dX6_hops_20 : decode cX6_hops 20 = .ok (.iload_n 1, 1) := by decide +kernel
theorem dX6_hops_21 : decode cX6_hops 21 = .ok (.invokevirtual 46, 3) := by decide +kernel
theorem dX6_hops_24 : decode cX6_hops 24 = .ok (.ifCond .eq 11, 3) := by decide +kernel
theorem dX6_hops_27 : decode cX6_hops 27 = .ok (.aload_n 0, 1) := by decide +kernel
theorem dX6_hops_28 : decode cX6_hops 28 = .ok (.iload_n 2, 1) := by decide +kernel
theorem dX6_hops_29 : decode cX6_hops 29 = .ok (.invokevirtual 46, 3) := by decide +kernel
theorem dX6_hops_32 : decode cX6_hops 32 = .ok (.ifCond .ne 6, 3) := by decide +kernel
theorem dX6_hops_35 : decode cX6_hops 35 = .ok (.ldc 196, 2) := by decide +kernel
theorem dX6_hops_37 : decode cX6_hops 37 = .ok (.ireturn, 1) := by decide +kernel
theorem dX6_hops_38 : decode cX6_hops 38 = .ok (.iconst 1, 1) := by decide +kernel
theorem dX6_hops_39 : decode cX6_hops 39 = .ok (.iload_n 1, 1) := by decide +kernel
theorem dX6_hops_40 : decode cX6_hops 40 = .ok (.ishl, 1) := by decide +kernel
theorem dX6_hops_41 : decode cX6_hops 41 = .ok (.istore_n 3, 1) := by decide +kernel
theorem dX6_hops_42 : decode cX6_hops 42 = .ok (.iconst 0, 1) := by decide +kernel
theorem dX6_hops_43 : decode cX6_hops 43 = .ok (.istore 4, 2) := by decide +kernel
theorem dX6_hops_45 : decode cX6_hops 45 = .ok (.iload_n 3, 1) := by decide +kernel
theorem dX6_hops_46 : decode cX6_hops 46 = .ok (.iload_n 2, 1) := by decide +kernel
theorem dX6_hops_47 : decode cX6_hops 47 = .ok (.invokestatic 42, 3) := by decide +kernel
theorem dX6_hops_50 : decode cX6_hops 50 = .ok (.ifCond .ne 64, 3) := by decide +kernel
theorem dX6_hops_53 : decode cX6_hops 53 = .ok (.iload_n 3, 1) := by decide +kernel
theorem dX6_hops_54 : decode cX6_hops 54 = .ok (.istore 5, 2) := by decide +kernel
theorem dX6_hops_56 : decode cX6_hops 56 = .ok (.iconst 0, 1) := by decide +kernel
theorem dX6_hops_57 : decode cX6_hops 57 = .ok (.istore 6, 2) := by decide +kernel
theorem dX6_hops_59 : decode cX6_hops 59 = .ok (.iload 6, 2) := by decide +kernel
theorem dX6_hops_61 : decode cX6_hops 61 = .ok (.aload_n 0, 1) := by decide +kernel
theorem dX6_hops_62 : decode cX6_hops 62 = .ok (.getfield 7, 3) := by decide +kernel
theorem dX6_hops_65 : decode cX6_hops 65 = .ok (.iconst 0, 1) := by decide +kernel
theorem dX6_hops_66 : decode cX6_hops 66 = .ok (.iaload, 1) := by decide +kernel
theorem dX6_hops_67 : decode cX6_hops 67 = .ok (.if_icmp .ge 33, 3) := by decide +kernel
theorem dX6_hops_70 : decode cX6_hops 70 = .ok (.iload_n 3, 1) := by decide +kernel
theorem dX6_hops_71 : decode cX6_hops 71 = .ok (.iload 5, 2) := by decide +kernel
theorem dX6_hops_73 : decode cX6_hops 73 = .ok (.iload 6, 2) := by decide +kernel
theorem dX6_hops_75 : decode cX6_hops 75 = .ok (.invokestatic 42, 3) := by decide +kernel
theorem dX6_hops_78 : decode cX6_hops 78 = .ok (.ifCond .eq 13, 3) := by decide +kernel
theorem dX6_hops_81 : decode cX6_hops 81 = .ok (.aload_n 0, 1) := by decide +kernel
theorem dX6_hops_82 : decode cX6_hops 82 = .ok (.iload 6, 2) := by decide +kernel
theorem dX6_hops_84 : decode cX6_hops 84 = .ok (.iconst 0, 1) := by decide +kernel
theorem dX6_hops_85 : decode cX6_hops 85 = .ok (.invokevirtual 84, 3) := by decide +kernel
theorem dX6_hops_88 : decode cX6_hops 88 = .ok (.goto 4, 3) := by decide +kernel
theorem dX6_hops_91 : decode cX6_hops 91 = .ok (.iconst 0, 1) := by decide +kernel
theorem dX6_hops_92 : decode cX6_hops 92 = .ok (.ior, 1) := by decide +kernel
theorem dX6_hops_93 : decode cX6_hops 93 = .ok (.istore_n 3, 1) := by decide +kernel
theorem dX6_hops_94 : decode cX6_hops 94 = .ok (.iinc 6 1, 3) := by decide +kernel
theorem dX6_hops_97 : decode cX6_hops 97 = .ok (.goto (-38), 3) := by decide +kernel
theorem dX6_hops_100 : decode cX6_hops 100 = .ok (.iload_n 3, 1) := by decide +kernel
theorem dX6_hops_101 : decode cX6_hops 101 = .ok (.iload 5, 2) := by decide +kernel
theorem dX6_hops_103 : decode cX6_hops 103 = .ok (.if_icmp .ne 5, 3) := by decide +kernel
theorem dX6_hops_106 : decode cX6_hops 106 = .ok (.iconst (-1), 1) := by decide +kernel
theorem dX6_hops_107 : decode cX6_hops 107 = .ok (.ireturn, 1) := by decide +kernel
theorem dX6_hops_108 : decode cX6_hops 108 = .ok (.iinc 4 1, 3) := by decide +kernel
theorem dX6_hops_111 : decode cX6_hops 111 = .ok (.goto (-66), 3) := by decide +kernel
theorem dX6_hops_114 : decode cX6_hops 114 = .ok (.iload 4, 2) := by decide +kernel
theorem dX6_hops_116 : decode cX6_hops 116 = .ok (.ireturn, 1) := by decide +kernel
theorem dX6_remembers_0 : decode cX6_remembers 0 = .ok (.iconst 0, 1) := by decide +kernel
theorem dX6_remembers_1 : decode cX6_remembers 1 = .ok (.istore_n 1, 1) := by decide +kernel
theorem dX6_remembers_2 : decode cX6_remembers 2 = .ok (.iload_n 1, 1) := by decide +kernel
theorem dX6_remembers_3 : decode cX6_remembers 3 = .ok (.bipush 24, 2) := by decide +kernel
theorem dX6_remembers_5 : decode cX6_remembers 5 = .ok (.if_icmp .ge 29, 3) := by decide +kernel
theorem dX6_remembers_8 : decode cX6_remembers 8 = .ok (.aload_n 0, 1) := by decide +kernel
theorem dX6_remembers_9 : decode cX6_remembers 9 = .ok (.getfield 13, 3) := by decide +kernel
theorem dX6_remembers_12 : decode cX6_remembers 12 = .ok (.bipush 24, 2) := by decide +kernel
theorem dX6_remembers_14 : decode cX6_remembers 14 = .ok (.aload_n 0, 1) := by decide +kernel
theorem dX6_remembers_15 : decode cX6_remembers 15 = .ok (.getfield 200, 3) := by decide +kernel
theorem dX6_remembers_18 : decode cX6_remembers 18 = .ok (.imul, 1) := by decide +kernel
theorem dX6_remembers_19 : decode cX6_remembers 19 = .ok (.iload_n 1, 1) := by decide +kernel
theorem dX6_remembers_20 : decode cX6_remembers 20 = .ok (.iadd, 1) := by decide +kernel
theorem dX6_remembers_21 : decode cX6_remembers 21 = .ok (.aload_n 0, 1) := by decide +kernel
theorem dX6_remembers_22 : decode cX6_remembers 22 = .ok (.getfield 7, 3) := by decide +kernel
theorem dX6_remembers_25 : decode cX6_remembers 25 = .ok (.iload_n 1, 1) := by decide +kernel
theorem dX6_remembers_26 : decode cX6_remembers 26 = .ok (.iaload, 1) := by decide +kernel
theorem dX6_remembers_27 : decode cX6_remembers 27 = .ok (.iastore, 1) := by decide +kernel
theorem dX6_remembers_28 : decode cX6_remembers 28 = .ok (.iinc 1 1, 3) := by decide +kernel
theorem dX6_remembers_31 : decode cX6_remembers 31 = .ok (.goto (-29), 3) := by decide +kernel
theorem dX6_remembers_34 : decode cX6_remembers 34 = .ok (.aload_n 0, 1) := by decide +kernel
theorem dX6_remembers_35 : decode cX6_remembers 35 = .ok (.aload_n 0, 1) := by decide +kernel
theorem dX6_remembers_36 : decode cX6_remembers 36 = .ok (.getfield 200, 3) := by decide +kernel
theorem dX6_remembers_39 : decode cX6_remembers 39 = .ok (.iconst 1, 1) := by decide +kernel
theorem dX6_remembers_40 : decode cX6_remembers 40 = .ok (.iadd, 1) := by decide +kernel
theorem dX6_remembers_41 : decode cX6_remembers 41 = .ok (.bipush 16, 2) := by decide +kernel
theorem dX6_remembers_43 : decode cX6_remembers 43 = .ok (.irem, 1) := by decide +kernel
theorem dX6_remembers_44 : decode cX6_remembers 44 = .ok (.putfield 200, 3) := by decide +kernel
theorem dX6_remembers_47 : decode cX6_remembers 47 = .ok (.aload_n 0, 1) := by decide +kernel
theorem dX6_remembers_48 : decode cX6_remembers 48 = .ok (.dup, 1) := by decide +kernel
theorem dX6_remembers_49 : decode cX6_remembers 49 = .ok (.getfield 178, 3) := by decide +kernel
theorem dX6_remembers_52 : decode cX6_remembers 52 = .ok (.aload_n 0, 1) := by decide +kernel
theorem dX6_remembers_53 : decode cX6_remembers 53 = .ok (.getfield 178, 3) := by decide +kernel
theorem dX6_remembers_56 : decode cX6_remembers 56 = .ok (.bipush 16, 2) := by decide +kernel
theorem dX6_remembers_58 : decode cX6_remembers 58 = .ok (.if_icmp .ge 7, 3) := by decide +kernel
theorem dX6_remembers_61 : decode cX6_remembers 61 = .ok (.iconst 1, 1) := by decide +kernel
theorem dX6_remembers_62 : decode cX6_remembers 62 = .ok (.goto 4, 3) := by decide +kernel
theorem dX6_remembers_65 : decode cX6_remembers 65 = .ok (.iconst 0, 1) := by decide +kernel
theorem dX6_remembers_66 : decode cX6_remembers 66 = .ok (.iadd, 1) := by decide +kernel
theorem dX6_remembers_67 : decode cX6_remembers 67 = .ok (.putfield 178, 3) := by decide +kernel
theorem dX6_remembers_70 : decode cX6_remembers 70 = .ok (.return_, 1) := by decide +kernel
theorem dX6_nodeAt_0 : decode cX6_nodeAt 0 = .ok (.iconst 0, 1) := by decide +kernel
theorem dX6_nodeAt_1 : decode cX6_nodeAt 1 = .ok (.istore_n 3, 1) := by decide +kernel
theorem dX6_nodeAt_2 : decode cX6_nodeAt 2 = .ok (.iload_n 3, 1) := by decide +kernel
theorem dX6_nodeAt_3 : decode cX6_nodeAt 3 = .ok (.aload_n 0, 1) := by decide +kernel
theorem dX6_nodeAt_4 : decode cX6_nodeAt 4 = .ok (.getfield 7, 3) := by decide +kernel
theorem dX6_nodeAt_7 : decode cX6_nodeAt 7 = .ok (.iconst 0, 1) := by decide +kernel
theorem dX6_nodeAt_8 : decode cX6_nodeAt 8 = .ok (.iaload, 1) := by decide +kernel
theorem dX6_nodeAt_9 : decode cX6_nodeAt 9 = .ok (.if_icmp .ge 36, 3) := by decide +kernel
theorem dX6_nodeAt_12 : decode cX6_nodeAt 12 = .ok (.aload_n 0, 1) := by decide +kernel
theorem dX6_nodeAt_13 : decode cX6_nodeAt 13 = .ok (.getfield 7, 3) := by decide +kernel
theorem dX6_nodeAt_16 : decode cX6_nodeAt 16 = .ok (.iconst 4, 1) := by decide +kernel
theorem dX6_nodeAt_17 : decode cX6_nodeAt 17 = .ok (.iload_n 3, 1) := by decide +kernel
theorem dX6_nodeAt_18 : decode cX6_nodeAt 18 = .ok (.iadd, 1) := by decide +kernel
theorem dX6_nodeAt_19 : decode cX6_nodeAt 19 = .ok (.iaload, 1) := by decide +kernel
theorem dX6_nodeAt_20 : decode cX6_nodeAt 20 = .ok (.iload_n 1, 1) := by decide +kernel
theorem dX6_nodeAt_21 : decode cX6_nodeAt 21 = .ok (.if_icmp .ne 18, 3) := by decide +kernel
theorem dX6_nodeAt_24 : decode cX6_nodeAt 24 = .ok (.aload_n 0, 1) := by decide +kernel
theorem dX6_nodeAt_25 : decode cX6_nodeAt 25 = .ok (.getfield 7, 3) := by decide +kernel
theorem dX6_nodeAt_28 : decode cX6_nodeAt 28 = .ok (.bipush 14, 2) := by decide +kernel
theorem dX6_nodeAt_30 : decode cX6_nodeAt 30 = .ok (.iload_n 3, 1) := by decide +kernel
theorem dX6_nodeAt_31 : decode cX6_nodeAt 31 = .ok (.iadd, 1) := by decide +kernel
theorem dX6_nodeAt_32 : decode cX6_nodeAt 32 = .ok (.iaload, 1) := by decide +kernel
theorem dX6_nodeAt_33 : decode cX6_nodeAt 33 = .ok (.iload_n 2, 1) := by decide +kernel
theorem dX6_nodeAt_34 : decode cX6_nodeAt 34 = .ok (.if_icmp .ne 5, 3) := by decide +kernel
theorem dX6_nodeAt_37 : decode cX6_nodeAt 37 = .ok (.iload_n 3, 1) := by decide +kernel
theorem dX6_nodeAt_38 : decode cX6_nodeAt 38 = .ok (.ireturn, 1) := by decide +kernel
theorem dX6_nodeAt_39 : decode cX6_nodeAt 39 = .ok (.iinc 3 1, 3) := by decide +kernel
theorem dX6_nodeAt_42 : decode cX6_nodeAt 42 = .ok (.goto (-40), 3) := by decide +kernel
theorem dX6_nodeAt_45 : decode cX6_nodeAt 45 = .ok (.iconst (-1), 1) := by decide +kernel
theorem dX6_nodeAt_46 : decode cX6_nodeAt 46 = .ok (.ireturn, 1) := by decide +kernel
set_option maxRecDepth 20000 in
theorem ggX6_isPlace_X6_in : GoodIn wsX6_isPlace wsX6_in := goodIn_r _ [4] (by decide +kernel) (by decide +kernel)
set_option maxRecDepth 20000 in
theorem gX6_isPlace_X6_in : GoodIn wsX6_isPlace (va_wsS RX6 38 yX6_in wsX6_in) := goodIn_app (goodIn_of _ (by decide +kernel)) ggX6_isPlace_X6_in
theorem dX6_isPlace_0 : decode cX6_isPlace 0 = .ok (.iload_n 0, 1) := by decide +kernel
theorem dX6_isPlace_1 : decode cX6_isPlace 1 = .ok (.iconst 0, 1) := by decide +kernel
theorem dX6_isPlace_2 : decode cX6_isPlace 2 = .ok (.bipush 63, 2) := by decide +kernel
theorem dX6_isPlace_4 : decode cX6_isPlace 4 = .ok (.invokestatic 38, 3) := by decide +kernel
theorem dX6_isPlace_7 : decode cX6_isPlace 7 = .ok (.ifCond .eq 17, 3) := by decide +kernel
theorem dX6_isPlace_10 : decode cX6_isPlace 10 = .ok (.iload_n 1, 1) := by decide +kernel
theorem dX6_isPlace_11 : decode cX6_isPlace 11 = .ok (.iconst 0, 1) := by decide +kernel
theorem dX6_isPlace_12 : decode cX6_isPlace 12 = .ok (.bipush 63, 2) := by decide +kernel
theorem dX6_isPlace_14 : decode cX6_isPlace 14 = .ok (.invokestatic 38, 3) := by decide +kernel
theorem dX6_isPlace_17 : decode cX6_isPlace 17 = .ok (.ifCond .eq 7, 3) := by decide +kernel
theorem dX6_isPlace_20 : decode cX6_isPlace 20 = .ok (.iconst 1, 1) := by decide +kernel
theorem dX6_isPlace_21 : decode cX6_isPlace 21 = .ok (.goto 4, 3) := by decide +kernel
theorem dX6_isPlace_24 : decode cX6_isPlace 24 = .ok (.iconst 0, 1) := by decide +kernel
theorem dX6_isPlace_25 : decode cX6_isPlace 25 = .ok (.ireturn, 1) := by decide +kernel
set_option maxRecDepth 20000 in
theorem ggX6_comes_X6_remembers : GoodIn wsX6_comes wsX6_remembers := goodIn_r _ [6, 7, 8, 1, 9, 10, 11, 12, 13, 14, 15, 16, 17, 18, 19, 20, 21, 22, 23, 24, 25, 26, 27, 28, 29, 30, 31, 32, 33, 34, 35] (by decide +kernel) (by decide +kernel)
set_option maxRecDepth 20000 in
theorem gX6_comes_X6_remembers : GoodIn wsX6_comes (wsV RX6 203 RX6 yX6_remembers wsX6_remembers) := goodIn_app (goodIn_of _ (by decide +kernel)) ggX6_comes_X6_remembers
theorem dX6_comes_0 : decode cX6_comes 0 = .ok (.aload_n 0, 1) := by decide +kernel
theorem dX6_comes_1 : decode cX6_comes 1 = .ok (.invokevirtual 203, 3) := by decide +kernel
theorem dX6_comes_4 : decode cX6_comes 4 = .ok (.aload_n 0, 1) := by decide +kernel
theorem dX6_comes_5 : decode cX6_comes 5 = .ok (.getfield 7, 3) := by decide +kernel
theorem dX6_comes_8 : decode cX6_comes 8 = .ok (.iconst 0, 1) := by decide +kernel
theorem dX6_comes_9 : decode cX6_comes 9 = .ok (.iaload, 1) := by decide +kernel
theorem dX6_comes_10 : decode cX6_comes 10 = .ok (.istore_n 3, 1) := by decide +kernel
theorem dX6_comes_11 : decode cX6_comes 11 = .ok (.aload_n 0, 1) := by decide +kernel
theorem dX6_comes_12 : decode cX6_comes 12 = .ok (.getfield 7, 3) := by decide +kernel
theorem dX6_comes_15 : decode cX6_comes 15 = .ok (.iconst 4, 1) := by decide +kernel
theorem dX6_comes_16 : decode cX6_comes 16 = .ok (.iload_n 3, 1) := by decide +kernel
theorem dX6_comes_17 : decode cX6_comes 17 = .ok (.iadd, 1) := by decide +kernel
theorem dX6_comes_18 : decode cX6_comes 18 = .ok (.iload_n 1, 1) := by decide +kernel
theorem dX6_comes_19 : decode cX6_comes 19 = .ok (.iastore, 1) := by decide +kernel
theorem dX6_comes_20 : decode cX6_comes 20 = .ok (.aload_n 0, 1) := by decide +kernel
theorem dX6_comes_21 : decode cX6_comes 21 = .ok (.getfield 7, 3) := by decide +kernel
theorem dX6_comes_24 : decode cX6_comes 24 = .ok (.bipush 14, 2) := by decide +kernel
theorem dX6_comes_26 : decode cX6_comes 26 = .ok (.iload_n 3, 1) := by decide +kernel
theorem dX6_comes_27 : decode cX6_comes 27 = .ok (.iadd, 1) := by decide +kernel
theorem dX6_comes_28 : decode cX6_comes 28 = .ok (.iload_n 2, 1) := by decide +kernel
theorem dX6_comes_29 : decode cX6_comes 29 = .ok (.iastore, 1) := by decide +kernel
theorem dX6_comes_30 : decode cX6_comes 30 = .ok (.aload_n 0, 1) := by decide +kernel
theorem dX6_comes_31 : decode cX6_comes 31 = .ok (.getfield 7, 3) := by decide +kernel
theorem dX6_comes_34 : decode cX6_comes 34 = .ok (.iconst 3, 1) := by decide +kernel
theorem dX6_comes_35 : decode cX6_comes 35 = .ok (.dup2, 1) := by decide +kernel
theorem dX6_comes_36 : decode cX6_comes 36 = .ok (.iaload, 1) := by decide +kernel
theorem dX6_comes_37 : decode cX6_comes 37 = .ok (.iconst 1, 1) := by decide +kernel
theorem dX6_comes_38 : decode cX6_comes 38 = .ok (.iload_n 3, 1) := by decide +kernel
theorem dX6_comes_39 : decode cX6_comes 39 = .ok (.ishl, 1) := by decide +kernel
theorem dX6_comes_40 : decode cX6_comes 40 = .ok (.ior, 1) := by decide +kernel
theorem dX6_comes_41 : decode cX6_comes 41 = .ok (.iastore, 1) := by decide +kernel
theorem dX6_comes_42 : decode cX6_comes 42 = .ok (.aload_n 0, 1) := by decide +kernel
theorem dX6_comes_43 : decode cX6_comes 43 = .ok (.getfield 7, 3) := by decide +kernel
theorem dX6_comes_46 : decode cX6_comes 46 = .ok (.iconst 0, 1) := by decide +kernel
theorem dX6_comes_47 : decode cX6_comes 47 = .ok (.dup2, 1) := by decide +kernel
theorem dX6_comes_48 : decode cX6_comes 48 = .ok (.iaload, 1) := by decide +kernel
theorem dX6_comes_49 : decode cX6_comes 49 = .ok (.iconst 1, 1) := by decide +kernel
theorem dX6_comes_50 : decode cX6_comes 50 = .ok (.iadd, 1) := by decide +kernel
theorem dX6_comes_51 : decode cX6_comes 51 = .ok (.iastore, 1) := by decide +kernel
theorem dX6_comes_52 : decode cX6_comes 52 = .ok (.iload_n 3, 1) := by decide +kernel
theorem dX6_comes_53 : decode cX6_comes 53 = .ok (.ireturn, 1) := by decide +kernel
set_option maxRecDepth 20000 in
theorem ggX6_node_X6_isPlace : GoodIn wsX6_node wsX6_isPlace := goodIn_r _ [8, 9, 10, 7, 11] (by decide +kernel) (by decide +kernel)
set_option maxRecDepth 20000 in
theorem gX6_node_X6_isPlace : GoodIn wsX6_node (va_wsS RX6 206 yX6_isPlace wsX6_isPlace) := goodIn_app (goodIn_of _ (by decide +kernel)) ggX6_node_X6_isPlace
set_option maxRecDepth 20000 in
theorem ggX6_node_X6_nodeAt : GoodIn wsX6_node wsX6_nodeAt := goodIn_r _ [15, 2, 27, 28, 29, 30, 31, 32, 33, 34, 35, 36, 37, 38, 39, 40, 41, 42, 43, 44, 45, 46, 47, 48, 49, 50, 51, 52] (by decide +kernel) (by decide +kernel)
set_option maxRecDepth 20000 in
theorem gX6_node_X6_nodeAt : GoodIn wsX6_node (wsV RX6 210 RX6 yX6_nodeAt wsX6_nodeAt) := goodIn_app (goodIn_of _ (by decide +kernel)) ggX6_node_X6_nodeAt
set_option maxRecDepth 20000 in
theorem ggX6_node_X6_comes : GoodIn wsX6_node wsX6_comes := goodIn_r _ [19, 2, 20, 21, 22, 7, 23, 24, 25, 26, 27, 28, 29, 30, 31, 32, 33, 34, 35, 36, 37, 38, 39, 40, 41, 42, 43, 44, 45, 46, 47, 48, 49, 50, 51, 52] (by decide +kernel) (by decide +kernel)
set_option maxRecDepth 20000 in
theorem gX6_node_X6_comes : GoodIn wsX6_node (wsV RX6 213 RX6 yX6_comes wsX6_comes) := goodIn_app (goodIn_of _ (by decide +kernel)) ggX6_node_X6_comes
theorem dX6_node_0 : decode cX6_node 0 = .ok (.iload_n 1, 1) := by decide +kernel
theorem dX6_node_1 : decode cX6_node 1 = .ok (.iload_n 2, 1) := by decide +kernel
theorem dX6_node_2 : decode cX6_node 2 = .ok (.invokestatic 206, 3) := by decide +kernel
theorem dX6_node_5 : decode cX6_node 5 = .ok (.ifCond .ne 6, 3) := by decide +kernel
theorem dX6_node_8 : decode cX6_node 8 = .ok (.ldc 184, 2) := by decide +kernel
theorem dX6_node_10 : decode cX6_node 10 = .ok (.ireturn, 1) := by decide +kernel
theorem dX6_node_11 : decode cX6_node 11 = .ok (.aload_n 0, 1) := by decide +kernel
theorem dX6_node_12 : decode cX6_node 12 = .ok (.getfield 7, 3) := by decide +kernel
theorem dX6_node_15 : decode cX6_node 15 = .ok (.iconst 0, 1) := by decide +kernel
theorem dX6_node_16 : decode cX6_node 16 = .ok (.iaload, 1) := by decide +kernel
theorem dX6_node_17 : decode cX6_node 17 = .ok (.bipush 10, 2) := by decide +kernel
theorem dX6_node_19 : decode cX6_node 19 = .ok (.if_icmp .ne 6, 3) := by decide +kernel
theorem dX6_node_22 : decode cX6_node 22 = .ok (.ldc 209, 2) := by decide +kernel
theorem dX6_node_24 : decode cX6_node 24 = .ok (.ireturn, 1) := by decide +kernel
theorem dX6_node_25 : decode cX6_node 25 = .ok (.aload_n 0, 1) := by decide +kernel
theorem dX6_node_26 : decode cX6_node 26 = .ok (.iload_n 1, 1) := by decide +kernel
theorem dX6_node_27 : decode cX6_node 27 = .ok (.iload_n 2, 1) := by decide +kernel
theorem dX6_node_28 : decode cX6_node 28 = .ok (.invokevirtual 210, 3) := by decide +kernel
theorem dX6_node_31 : decode cX6_node 31 = .ok (.iconst (-1), 1) := by decide +kernel
theorem dX6_node_32 : decode cX6_node 32 = .ok (.if_icmp .ne 12, 3) := by decide +kernel
theorem dX6_node_35 : decode cX6_node 35 = .ok (.aload_n 0, 1) := by decide +kernel
theorem dX6_node_36 : decode cX6_node 36 = .ok (.iload_n 1, 1) := by decide +kernel
theorem dX6_node_37 : decode cX6_node 37 = .ok (.iload_n 2, 1) := by decide +kernel
theorem dX6_node_38 : decode cX6_node 38 = .ok (.invokevirtual 213, 3) := by decide +kernel
theorem dX6_node_41 : decode cX6_node 41 = .ok (.goto 5, 3) := by decide +kernel
theorem dX6_node_44 : decode cX6_node 44 = .ok (.ldc 196, 2) := by decide +kernel
theorem dX6_node_46 : decode cX6_node 46 = .ok (.ireturn, 1) := by decide +kernel
set_option maxRecDepth 20000 in
theorem ggX6_move_X6_isNode : GoodIn wsX6_move wsX6_isNode := goodIn_r _ [9, 4, 10, 11, 8, 12, 27, 28, 29, 30, 31, 32, 33, 34, 35, 36, 37, 38, 39, 40, 41, 42, 43, 44, 45, 46, 47, 48, 49, 50, 51, 52] (by decide +kernel) (by decide +kernel)
set_option maxRecDepth 20000 in
theorem gX6_move_X6_isNode : GoodIn wsX6_move (wsV RX6 152 RX6 yX6_isNode wsX6_isNode) := goodIn_app (goodIn_of _ (by decide +kernel)) ggX6_move_X6_isNode
set_option maxRecDepth 20000 in
theorem ggX6_move_X6_isPlace : GoodIn wsX6_move wsX6_isPlace := goodIn_r _ [15, 10, 11, 8, 12] (by decide +kernel) (by decide +kernel)
set_option maxRecDepth 20000 in
theorem gX6_move_X6_isPlace : GoodIn wsX6_move (va_wsS RX6 206 yX6_isPlace wsX6_isPlace) := goodIn_app (goodIn_of _ (by decide +kernel)) ggX6_move_X6_isPlace
set_option maxRecDepth 20000 in
theorem ggX6_move_X6_nodeAt : GoodIn wsX6_move wsX6_nodeAt := goodIn_r _ [19, 4, 27, 28, 29, 30, 31, 32, 33, 34, 35, 36, 37, 38, 39, 40, 41, 42, 43, 44, 45, 46, 47, 48, 49, 50, 51, 52] (by decide +kernel) (by decide +kernel)
set_option maxRecDepth 20000 in
theorem gX6_move_X6_nodeAt : GoodIn wsX6_move (wsV RX6 210 RX6 yX6_nodeAt wsX6_nodeAt) := goodIn_app (goodIn_of _ (by decide +kernel)) ggX6_move_X6_nodeAt
set_option maxRecDepth 20000 in
theorem ggX6_move_X6_remembers : GoodIn wsX6_move wsX6_remembers := goodIn_r _ [23, 24, 25, 4, 26, 27, 28, 29, 30, 31, 32, 33, 34, 35, 36, 37, 38, 39, 40, 41, 42, 43, 44, 45, 46, 47, 48, 49, 50, 51, 52] (by decide +kernel) (by decide +kernel)
set_option maxRecDepth 20000 in
theorem gX6_move_X6_remembers : GoodIn wsX6_move (wsV RX6 203 RX6 yX6_remembers wsX6_remembers) := goodIn_app (goodIn_of _ (by decide +kernel)) ggX6_move_X6_remembers
theorem dX6_move_0 : decode cX6_move 0 = .ok (.aload_n 0, 1) := by decide +kernel
theorem dX6_move_1 : decode cX6_move 1 = .ok (.iload_n 1, 1) := by decide +kernel
theorem dX6_move_2 : decode cX6_move 2 = .ok (.invokevirtual 152, 3) := by decide +kernel
theorem dX6_move_5 : decode cX6_move 5 = .ok (.ifCond .ne 6, 3) := by decide +kernel
theorem dX6_move_8 : decode cX6_move 8 = .ok (.ldc 185, 2) := by decide +kernel
theorem dX6_move_10 : decode cX6_move 10 = .ok (.ireturn, 1) := by decide +kernel
theorem dX6_move_11 : decode cX6_move 11 = .ok (.iload_n 2, 1) := by decide +kernel
theorem dX6_move_12 : decode cX6_move 12 = .ok (.iload_n 3, 1) := by decide +kernel
theorem dX6_move_13 : decode cX6_move 13 = .ok (.invokestatic 206, 3) := by decide +kernel
theorem dX6_move_16 : decode cX6_move 16 = .ok (.ifCond .ne 6, 3) := by decide +kernel
theorem dX6_move_19 : decode cX6_move 19 = .ok (.ldc 184, 2) := by decide +kernel
theorem dX6_move_21 : decode cX6_move 21 = .ok (.ireturn, 1) := by decide +kernel
theorem dX6_move_22 : decode cX6_move 22 = .ok (.aload_n 0, 1) := by decide +kernel
theorem dX6_move_23 : decode cX6_move 23 = .ok (.iload_n 2, 1) := by decide +kernel
theorem dX6_move_24 : decode cX6_move 24 = .ok (.iload_n 3, 1) := by decide +kernel
theorem dX6_move_25 : decode cX6_move 25 = .ok (.invokevirtual 210, 3) := by decide +kernel
theorem dX6_move_28 : decode cX6_move 28 = .ok (.iconst (-1), 1) := by decide +kernel
theorem dX6_move_29 : decode cX6_move 29 = .ok (.if_icmp .eq 16, 3) := by decide +kernel
theorem dX6_move_32 : decode cX6_move 32 = .ok (.aload_n 0, 1) := by decide +kernel
theorem dX6_move_33 : decode cX6_move 33 = .ok (.iload_n 2, 1) := by decide +kernel
theorem dX6_move_34 : decode cX6_move 34 = .ok (.iload_n 3, 1) := by decide +kernel
theorem dX6_move_35 : decode cX6_move 35 = .ok (.invokevirtual 210, 3) := by decide +kernel
theorem dX6_move_38 : decode cX6_move 38 = .ok (.iload_n 1, 1) := by decide +kernel
theorem dX6_move_39 : decode cX6_move 39 = .ok (.if_icmp .eq 6, 3) := by decide +kernel
theorem dX6_move_42 : decode cX6_move 42 = .ok (.ldc 196, 2) := by decide +kernel
theorem dX6_move_44 : decode cX6_move 44 = .ok (.ireturn, 1) := by decide +kernel
theorem dX6_move_45 : decode cX6_move 45 = .ok (.aload_n 0, 1) := by decide +kernel
theorem dX6_move_46 : decode cX6_move 46 = .ok (.invokevirtual 203, 3) := by decide +kernel
theorem dX6_move_49 : decode cX6_move 49 = .ok (.iload_n 2, 1) := by decide +kernel
theorem dX6_move_50 : decode cX6_move 50 = .ok (.aload_n 0, 1) := by decide +kernel
theorem dX6_move_51 : decode cX6_move 51 = .ok (.getfield 7, 3) := by decide +kernel
theorem dX6_move_54 : decode cX6_move 54 = .ok (.iconst 4, 1) := by decide +kernel
theorem dX6_move_55 : decode cX6_move 55 = .ok (.iload_n 1, 1) := by decide +kernel
theorem dX6_move_56 : decode cX6_move 56 = .ok (.iadd, 1) := by decide +kernel
theorem dX6_move_57 : decode cX6_move 57 = .ok (.iaload, 1) := by decide +kernel
theorem dX6_move_58 : decode cX6_move 58 = .ok (.isub, 1) := by decide +kernel
theorem dX6_move_59 : decode cX6_move 59 = .ok (.istore 4, 2) := by decide +kernel
theorem dX6_move_61 : decode cX6_move 61 = .ok (.iload_n 3, 1) := by decide +kernel
theorem dX6_move_62 : decode cX6_move 62 = .ok (.aload_n 0, 1) := by decide +kernel
theorem dX6_move_63 : decode cX6_move 63 = .ok (.getfield 7, 3) := by decide +kernel
theorem dX6_move_66 : decode cX6_move 66 = .ok (.bipush 14, 2) := by decide +kernel
theorem dX6_move_68 : decode cX6_move 68 = .ok (.iload_n 1, 1) := by decide +kernel
theorem dX6_move_69 : decode cX6_move 69 = .ok (.iadd, 1) := by decide +kernel
theorem dX6_move_70 : decode cX6_move 70 = .ok (.iaload, 1) := by decide +kernel
theorem dX6_move_71 : decode cX6_move 71 = .ok (.isub, 1) := by decide +kernel
theorem dX6_move_72 : decode cX6_move 72 = .ok (.istore 5, 2) := by decide +kernel
theorem dX6_move_74 : decode cX6_move 74 = .ok (.aload_n 0, 1) := by decide +kernel
theorem dX6_move_75 : decode cX6_move 75 = .ok (.getfield 7, 3) := by decide +kernel
theorem dX6_move_78 : decode cX6_move 78 = .ok (.iconst 4, 1) := by decide +kernel
theorem dX6_move_79 : decode cX6_move 79 = .ok (.iload_n 1, 1) := by decide +kernel
theorem dX6_move_80 : decode cX6_move 80 = .ok (.iadd, 1) := by decide +kernel
theorem dX6_move_81 : decode cX6_move 81 = .ok (.iload_n 2, 1) := by decide +kernel
theorem dX6_move_82 : decode cX6_move 82 = .ok (.iastore, 1) := by decide +kernel
theorem dX6_move_83 : decode cX6_move 83 = .ok (.aload_n 0, 1) := by decide +kernel
theorem dX6_move_84 : decode cX6_move 84 = .ok (.getfield 7, 3) := by decide +kernel
theorem dX6_move_87 : decode cX6_move 87 = .ok (.bipush 14, 2) := by decide +kernel
theorem dX6_move_89 : decode cX6_move 89 = .ok (.iload_n 1, 1) := by decide +kernel
theorem dX6_move_90 : decode cX6_move 90 = .ok (.iadd, 1) := by decide +kernel
theorem dX6_move_91 : decode cX6_move 91 = .ok (.iload_n 3, 1) := by decide +kernel
theorem dX6_move_92 : decode cX6_move 92 = .ok (.iastore, 1) := by decide +kernel
theorem dX6_move_93 : decode cX6_move 93 = .ok (.iload 4, 2) := by decide +kernel
theorem dX6_move_95 : decode cX6_move 95 = .ok (.iload 4, 2) := by decide +kernel
theorem dX6_move_97 : decode cX6_move 97 = .ok (.imul, 1) := by decide +kernel
theorem dX6_move_98 : decode cX6_move 98 = .ok (.iload 5, 2) := by decide +kernel
theorem dX6_move_100 : decode cX6_move 100 = .ok (.iload 5, 2) := by decide +kernel
theorem dX6_move_102 : decode cX6_move 102 = .ok (.imul, 1) := by decide +kernel
theorem dX6_move_103 : decode cX6_move 103 = .ok (.iadd, 1) := by decide +kernel
theorem dX6_move_104 : decode cX6_move 104 = .ok (.ireturn, 1) := by decide +kernel
set_option maxRecDepth 20000 in
theorem ggX6_wake_X6_isNode : GoodIn wsX6_wake wsX6_isNode := goodIn_r _ [7, 2, 8, 9, 6, 10, 29, 30, 31, 32, 33, 34, 35, 36, 37, 38, 39, 40, 41, 42, 43, 44, 45, 46, 47, 48, 49, 50, 51, 52, 53, 54] (by decide +kernel) (by decide +kernel)
set_option maxRecDepth 20000 in
theorem gX6_wake_X6_isNode : GoodIn wsX6_wake (wsV RX6 152 RX6 yX6_isNode wsX6_isNode) := goodIn_app (goodIn_of _ (by decide +kernel)) ggX6_wake_X6_isNode
set_option maxRecDepth 20000 in
theorem ggX6_wake_X6_remembers : GoodIn wsX6_wake wsX6_remembers := goodIn_r _ [14, 15, 16, 2, 17, 29, 30, 31, 32, 33, 34, 35, 36, 37, 38, 39, 40, 41, 42, 43, 44, 45, 46, 47, 48, 49, 50, 51, 52, 53, 54] (by decide +kernel) (by decide +kernel)
set_option maxRecDepth 20000 in
theorem gX6_wake_X6_remembers : GoodIn wsX6_wake (wsV RX6 203 RX6 yX6_remembers wsX6_remembers) := goodIn_app (goodIn_of _ (by decide +kernel)) ggX6_wake_X6_remembers
set_option maxRecDepth 20000 in
theorem ggX6_wake_X6_awakeMany : GoodIn wsX6_wake wsX6_awakeMany := goodIn_r _ [21, 2, 22, 23, 24, 6, 25, 26, 27, 28, 29, 30, 31, 32, 33, 34, 35, 36, 37, 38, 39, 40, 41, 42, 43, 44, 45, 46, 47, 48, 49, 50, 51, 52, 53, 54] (by decide +kernel) (by decide +kernel)
set_option maxRecDepth 20000 in
theorem gX6_wake_X6_awakeMany : GoodIn wsX6_wake (wsV RX6 155 RX6 yX6_awakeMany wsX6_awakeMany) := goodIn_app (goodIn_of _ (by decide +kernel)) ggX6_wake_X6_awakeMany
theorem dX6_wake_0 : decode cX6_wake 0 = .ok (.aload_n 0, 1) := by decide +kernel
theorem dX6_wake_1 : decode cX6_wake 1 = .ok (.iload_n 1, 1) := by decide +kernel
theorem dX6_wake_2 : decode cX6_wake 2 = .ok (.invokevirtual 152, 3) := by decide +kernel
theorem dX6_wake_5 : decode cX6_wake 5 = .ok (.ifCond .ne 6, 3) := by decide +kernel
theorem dX6_wake_8 : decode cX6_wake 8 = .ok (.ldc 185, 2) := by decide +kernel
theorem dX6_wake_10 : decode cX6_wake 10 = .ok (.ireturn, 1) := by decide +kernel
theorem dX6_wake_11 : decode cX6_wake 11 = .ok (.aload_n 0, 1) := by decide +kernel
theorem dX6_wake_12 : decode cX6_wake 12 = .ok (.invokevirtual 203, 3) := by decide +kernel
theorem dX6_wake_15 : decode cX6_wake 15 = .ok (.aload_n 0, 1) := by decide +kernel
theorem dX6_wake_16 : decode cX6_wake 16 = .ok (.getfield 7, 3) := by decide +kernel
theorem dX6_wake_19 : decode cX6_wake 19 = .ok (.iconst 3, 1) := by decide +kernel
theorem dX6_wake_20 : decode cX6_wake 20 = .ok (.iload_n 2, 1) := by decide +kernel
theorem dX6_wake_21 : decode cX6_wake 21 = .ok (.ifCond .eq 16, 3) := by decide +kernel
theorem dX6_wake_24 : decode cX6_wake 24 = .ok (.aload_n 0, 1) := by decide +kernel
theorem dX6_wake_25 : decode cX6_wake 25 = .ok (.getfield 7, 3) := by decide +kernel
theorem dX6_wake_28 : decode cX6_wake 28 = .ok (.iconst 3, 1) := by decide +kernel
theorem dX6_wake_29 : decode cX6_wake 29 = .ok (.iaload, 1) := by decide +kernel
theorem dX6_wake_30 : decode cX6_wake 30 = .ok (.iconst 1, 1) := by decide +kernel
theorem dX6_wake_31 : decode cX6_wake 31 = .ok (.iload_n 1, 1) := by decide +kernel
theorem dX6_wake_32 : decode cX6_wake 32 = .ok (.ishl, 1) := by decide +kernel
theorem dX6_wake_33 : decode cX6_wake 33 = .ok (.ior, 1) := by decide +kernel
theorem dX6_wake_34 : decode cX6_wake 34 = .ok (.goto 15, 3) := by decide +kernel
theorem dX6_wake_37 : decode cX6_wake 37 = .ok (.aload_n 0, 1) := by decide +kernel
theorem dX6_wake_38 : decode cX6_wake 38 = .ok (.getfield 7, 3) := by decide +kernel
theorem dX6_wake_41 : decode cX6_wake 41 = .ok (.iconst 3, 1) := by decide +kernel
theorem dX6_wake_42 : decode cX6_wake 42 = .ok (.iaload, 1) := by decide +kernel
theorem dX6_wake_43 : decode cX6_wake 43 = .ok (.iconst 1, 1) := by decide +kernel
theorem dX6_wake_44 : decode cX6_wake 44 = .ok (.iload_n 1, 1) := by decide +kernel
theorem dX6_wake_45 : decode cX6_wake 45 = .ok (.ishl, 1) := by decide +kernel
theorem dX6_wake_46 : decode cX6_wake 46 = .ok (.iconst (-1), 1) := by decide +kernel
theorem dX6_wake_47 : decode cX6_wake 47 = .ok (.ixor, 1) := by decide +kernel
theorem dX6_wake_48 : decode cX6_wake 48 = .ok (.iand, 1) := by decide +kernel
theorem dX6_wake_49 : decode cX6_wake 49 = .ok (.iastore, 1) := by decide +kernel
theorem dX6_wake_50 : decode cX6_wake 50 = .ok (.aload_n 0, 1) := by decide +kernel
theorem dX6_wake_51 : decode cX6_wake 51 = .ok (.invokevirtual 155, 3) := by decide +kernel
theorem dX6_wake_54 : decode cX6_wake 54 = .ok (.ireturn, 1) := by decide +kernel
set_option maxRecDepth 20000 in
theorem ggX6_take_X6_isNode : GoodIn wsX6_take wsX6_isNode := goodIn_r _ [7, 2, 8, 9, 6, 10, 25, 26, 27, 28, 29, 30, 31, 32, 33, 34, 35, 36, 37, 38, 39, 40, 41, 42, 43, 44, 45, 46, 47, 48, 49, 50] (by decide +kernel) (by decide +kernel)
set_option maxRecDepth 20000 in
theorem gX6_take_X6_isNode : GoodIn wsX6_take (wsV RX6 152 RX6 yX6_isNode wsX6_isNode) := goodIn_app (goodIn_of _ (by decide +kernel)) ggX6_take_X6_isNode
set_option maxRecDepth 20000 in
theorem ggX6_take_X6_remembers : GoodIn wsX6_take wsX6_remembers := goodIn_r _ [14, 15, 16, 2, 17, 25, 26, 27, 28, 29, 30, 31, 32, 33, 34, 35, 36, 37, 38, 39, 40, 41, 42, 43, 44, 45, 46, 47, 48, 49, 50] (by decide +kernel) (by decide +kernel)
set_option maxRecDepth 20000 in
theorem gX6_take_X6_remembers : GoodIn wsX6_take (wsV RX6 203 RX6 yX6_remembers wsX6_remembers) := goodIn_app (goodIn_of _ (by decide +kernel)) ggX6_take_X6_remembers
set_option maxRecDepth 20000 in
theorem ggX6_take_X6_isAwake : GoodIn wsX6_take wsX6_isAwake := goodIn_r _ [21, 2, 22, 23, 6, 24, 25, 26, 27, 28, 29, 30, 31, 32, 33, 34, 35, 36, 37, 38, 39, 40, 41, 42, 43, 44, 45, 46, 47, 48, 49, 50] (by decide +kernel) (by decide +kernel)
set_option maxRecDepth 20000 in
theorem gX6_take_X6_isAwake : GoodIn wsX6_take (wsV RX6 46 RX6 yX6_isAwake wsX6_isAwake) := goodIn_app (goodIn_of _ (by decide +kernel)) ggX6_take_X6_isAwake
theorem dX6_take_0 : decode cX6_take 0 = .ok (.aload_n 0, 1) := by decide +kernel
theorem dX6_take_1 : decode cX6_take 1 = .ok (.iload_n 1, 1) := by decide +kernel
theorem dX6_take_2 : decode cX6_take 2 = .ok (.invokevirtual 152, 3) := by decide +kernel
theorem dX6_take_5 : decode cX6_take 5 = .ok (.ifCond .ne 6, 3) := by decide +kernel
theorem dX6_take_8 : decode cX6_take 8 = .ok (.ldc 185, 2) := by decide +kernel
theorem dX6_take_10 : decode cX6_take 10 = .ok (.ireturn, 1) := by decide +kernel
theorem dX6_take_11 : decode cX6_take 11 = .ok (.aload_n 0, 1) := by decide +kernel
theorem dX6_take_12 : decode cX6_take 12 = .ok (.invokevirtual 203, 3) := by decide +kernel
theorem dX6_take_15 : decode cX6_take 15 = .ok (.aload_n 0, 1) := by decide +kernel
theorem dX6_take_16 : decode cX6_take 16 = .ok (.getfield 7, 3) := by decide +kernel
theorem dX6_take_19 : decode cX6_take 19 = .ok (.iconst 3, 1) := by decide +kernel
theorem dX6_take_20 : decode cX6_take 20 = .ok (.iaload, 1) := by decide +kernel
theorem dX6_take_21 : decode cX6_take 21 = .ok (.iconst 1, 1) := by decide +kernel
theorem dX6_take_22 : decode cX6_take 22 = .ok (.iload_n 1, 1) := by decide +kernel
theorem dX6_take_23 : decode cX6_take 23 = .ok (.ishl, 1) := by decide +kernel
theorem dX6_take_24 : decode cX6_take 24 = .ok (.iconst 1, 1) := by decide +kernel
theorem dX6_take_25 : decode cX6_take 25 = .ok (.isub, 1) := by decide +kernel
theorem dX6_take_26 : decode cX6_take 26 = .ok (.iand, 1) := by decide +kernel
theorem dX6_take_27 : decode cX6_take 27 = .ok (.istore_n 2, 1) := by decide +kernel
theorem dX6_take_28 : decode cX6_take 28 = .ok (.iload_n 1, 1) := by decide +kernel
theorem dX6_take_29 : decode cX6_take 29 = .ok (.istore_n 3, 1) := by decide +kernel
theorem dX6_take_30 : decode cX6_take 30 = .ok (.iload_n 3, 1) := by decide +kernel
theorem dX6_take_31 : decode cX6_take 31 = .ok (.iconst 1, 1) := by decide +kernel
theorem dX6_take_32 : decode cX6_take 32 = .ok (.iadd, 1) := by decide +kernel
theorem dX6_take_33 : decode cX6_take 33 = .ok (.aload_n 0, 1) := by decide +kernel
theorem dX6_take_34 : decode cX6_take 34 = .ok (.getfield 7, 3) := by decide +kernel
theorem dX6_take_37 : decode cX6_take 37 = .ok (.iconst 0, 1) := by decide +kernel
theorem dX6_take_38 : decode cX6_take 38 = .ok (.iaload, 1) := by decide +kernel
theorem dX6_take_39 : decode cX6_take 39 = .ok (.if_icmp .ge 67, 3) := by decide +kernel
theorem dX6_take_42 : decode cX6_take 42 = .ok (.aload_n 0, 1) := by decide +kernel
theorem dX6_take_43 : decode cX6_take 43 = .ok (.getfield 7, 3) := by decide +kernel
theorem dX6_take_46 : decode cX6_take 46 = .ok (.iconst 4, 1) := by decide +kernel
theorem dX6_take_47 : decode cX6_take 47 = .ok (.iload_n 3, 1) := by decide +kernel
theorem dX6_take_48 : decode cX6_take 48 = .ok (.iadd, 1) := by decide +kernel
theorem dX6_take_49 : decode cX6_take 49 = .ok (.aload_n 0, 1) := by decide +kernel
theorem dX6_take_50 : decode cX6_take 50 = .ok (.getfield 7, 3) := by decide +kernel
theorem dX6_take_53 : decode cX6_take 53 = .ok (.iconst 4, 1) := by decide +kernel
theorem dX6_take_54 : decode cX6_take 54 = .ok (.iload_n 3, 1) := by decide +kernel
theorem dX6_take_55 : decode cX6_take 55 = .ok (.iadd, 1) := by decide +kernel
theorem dX6_take_56 : decode cX6_take 56 = .ok (.iconst 1, 1) := by decide +kernel
theorem dX6_take_57 : decode cX6_take 57 = .ok (.iadd, 1) := by decide +kernel
theorem dX6_take_58 : decode cX6_take 58 = .ok (.iaload, 1) := by decide +kernel
theorem dX6_take_59 : decode cX6_take 59 = .ok (.iastore, 1) := by decide +kernel
theorem dX6_take_60 : decode cX6_take 60 = .ok (.aload_n 0, 1) := by decide +kernel
theorem dX6_take_61 : decode cX6_take 61 = .ok (.getfield 7, 3) := by decide +kernel
theorem dX6_take_64 : decode cX6_take 64 = .ok (.bipush 14, 2) := by decide +kernel
theorem dX6_take_66 : decode cX6_take 66 = .ok (.iload_n 3, 1) := by decide +kernel
theorem dX6_take_67 : decode cX6_take 67 = .ok (.iadd, 1) := by decide +kernel
theorem dX6_take_68 : decode cX6_take 68 = .ok (.aload_n 0, 1) := by decide +kernel
theorem dX6_take_69 : decode cX6_take 69 = .ok (.getfield 7, 3) := by decide +kernel
theorem dX6_take_72 : decode cX6_take 72 = .ok (.bipush 14, 2) := by decide +kernel
theorem dX6_take_74 : decode cX6_take 74 = .ok (.iload_n 3, 1) := by decide +kernel
theorem dX6_take_75 : decode cX6_take 75 = .ok (.iadd, 1) := by decide +kernel
theorem dX6_take_76 : decode cX6_take 76 = .ok (.iconst 1, 1) := by decide +kernel
theorem dX6_take_77 : decode cX6_take 77 = .ok (.iadd, 1) := by decide +kernel
theorem dX6_take_78 : decode cX6_take 78 = .ok (.iaload, 1) := by decide +kernel
theorem dX6_take_79 : decode cX6_take 79 = .ok (.iastore, 1) := by decide +kernel
theorem dX6_take_80 : decode cX6_take 80 = .ok (.iload_n 2, 1) := by decide +kernel
theorem dX6_take_81 : decode cX6_take 81 = .ok (.aload_n 0, 1) := by decide +kernel
theorem dX6_take_82 : decode cX6_take 82 = .ok (.iload_n 3, 1) := by decide +kernel
theorem dX6_take_83 : decode cX6_take 83 = .ok (.iconst 1, 1) := by decide +kernel
theorem dX6_take_84 : decode cX6_take 84 = .ok (.iadd, 1) := by decide +kernel
theorem dX6_take_85 : decode cX6_take 85 = .ok (.invokevirtual 46, 3) := by decide +kernel
theorem dX6_take_88 : decode cX6_take 88 = .ok (.ifCond .eq 9, 3) := by decide +kernel
theorem dX6_take_91 : decode cX6_take 91 = .ok (.iconst 1, 1) := by decide +kernel
theorem dX6_take_92 : decode cX6_take 92 = .ok (.iload_n 3, 1) := by decide +kernel
theorem dX6_take_93 : decode cX6_take 93 = .ok (.ishl, 1) := by decide +kernel
theorem dX6_take_94 : decode cX6_take 94 = .ok (.goto 4, 3) := by decide +kernel
theorem dX6_take_97 : decode cX6_take 97 = .ok (.iconst 0, 1) := by decide +kernel
theorem dX6_take_98 : decode cX6_take 98 = .ok (.ior, 1) := by decide +kernel
theorem dX6_take_99 : decode cX6_take 99 = .ok (.istore_n 2, 1) := by decide +kernel
theorem dX6_take_100 : decode cX6_take 100 = .ok (.iinc 3 1, 3) := by decide +kernel
theorem dX6_take_103 : decode cX6_take 103 = .ok (.goto (-73), 3) := by decide +kernel
theorem dX6_take_106 : decode cX6_take 106 = .ok (.aload_n 0, 1) := by decide +kernel
theorem dX6_take_107 : decode cX6_take 107 = .ok (.getfield 7, 3) := by decide +kernel
theorem dX6_take_110 : decode cX6_take 110 = .ok (.iconst 3, 1) := by decide +kernel
theorem dX6_take_111 : decode cX6_take 111 = .ok (.iload_n 2, 1) := by decide +kernel
theorem dX6_take_112 : decode cX6_take 112 = .ok (.iastore, 1) := by decide +kernel
theorem dX6_take_113 : decode cX6_take 113 = .ok (.aload_n 0, 1) := by decide +kernel
theorem dX6_take_114 : decode cX6_take 114 = .ok (.getfield 7, 3) := by decide +kernel
theorem dX6_take_117 : decode cX6_take 117 = .ok (.iconst 0, 1) := by decide +kernel
theorem dX6_take_118 : decode cX6_take 118 = .ok (.dup2, 1) := by decide +kernel
theorem dX6_take_119 : decode cX6_take 119 = .ok (.iaload, 1) := by decide +kernel
theorem dX6_take_120 : decode cX6_take 120 = .ok (.iconst 1, 1) := by decide +kernel
theorem dX6_take_121 : decode cX6_take 121 = .ok (.isub, 1) := by decide +kernel
theorem dX6_take_122 : decode cX6_take 122 = .ok (.iastore, 1) := by decide +kernel
theorem dX6_take_123 : decode cX6_take 123 = .ok (.aload_n 0, 1) := by decide +kernel
theorem dX6_take_124 : decode cX6_take 124 = .ok (.getfield 7, 3) := by decide +kernel
theorem dX6_take_127 : decode cX6_take 127 = .ok (.iconst 0, 1) := by decide +kernel
theorem dX6_take_128 : decode cX6_take 128 = .ok (.iaload, 1) := by decide +kernel
theorem dX6_take_129 : decode cX6_take 129 = .ok (.ireturn, 1) := by decide +kernel
set_option maxRecDepth 20000 in
theorem ggX6_sets_X6_remembers : GoodIn wsX6_sets wsX6_remembers := goodIn_r _ [6, 7, 8, 1, 9, 10, 11, 12, 13, 14, 15, 16, 17, 18, 19, 20, 21, 22, 23, 24, 25, 26, 27, 28, 29, 30, 31, 32, 33, 34, 35] (by decide +kernel) (by decide +kernel)
set_option maxRecDepth 20000 in
theorem gX6_sets_X6_remembers : GoodIn wsX6_sets (wsV RX6 203 RX6 yX6_remembers wsX6_remembers) := goodIn_app (goodIn_of _ (by decide +kernel)) ggX6_sets_X6_remembers
theorem dX6_sets_0 : decode cX6_sets 0 = .ok (.aload_n 0, 1) := by decide +kernel
theorem dX6_sets_1 : decode cX6_sets 1 = .ok (.invokevirtual 203, 3) := by decide +kernel
theorem dX6_sets_4 : decode cX6_sets 4 = .ok (.aload_n 0, 1) := by decide +kernel
theorem dX6_sets_5 : decode cX6_sets 5 = .ok (.getfield 7, 3) := by decide +kernel
theorem dX6_sets_8 : decode cX6_sets 8 = .ok (.iload_n 1, 1) := by decide +kernel
theorem dX6_sets_9 : decode cX6_sets 9 = .ok (.iaload, 1) := by decide +kernel
theorem dX6_sets_10 : decode cX6_sets 10 = .ok (.istore_n 3, 1) := by decide +kernel
theorem dX6_sets_11 : decode cX6_sets 11 = .ok (.aload_n 0, 1) := by decide +kernel
theorem dX6_sets_12 : decode cX6_sets 12 = .ok (.getfield 7, 3) := by decide +kernel
theorem dX6_sets_15 : decode cX6_sets 15 = .ok (.iload_n 1, 1) := by decide +kernel
theorem dX6_sets_16 : decode cX6_sets 16 = .ok (.iload_n 2, 1) := by decide +kernel
theorem dX6_sets_17 : decode cX6_sets 17 = .ok (.iastore, 1) := by decide +kernel
theorem dX6_sets_18 : decode cX6_sets 18 = .ok (.iload_n 3, 1) := by decide +kernel
theorem dX6_sets_19 : decode cX6_sets 19 = .ok (.ireturn, 1) := by decide +kernel
set_option maxRecDepth 20000 in
theorem ggX6_reach_X6_in : GoodIn wsX6_reach wsX6_in := goodIn_r _ [5] (by decide +kernel) (by decide +kernel)
set_option maxRecDepth 20000 in
theorem gX6_reach_X6_in : GoodIn wsX6_reach (va_wsS RX6 38 yX6_in wsX6_in) := goodIn_app (goodIn_of _ (by decide +kernel)) ggX6_reach_X6_in
set_option maxRecDepth 20000 in
theorem ggX6_reach_X6_sets : GoodIn wsX6_reach wsX6_sets := goodIn_r _ [9, 10, 11, 12, 13, 4, 14, 15, 16, 17, 18, 19, 20, 21, 22, 23, 24, 25, 26, 27, 28, 29, 30, 31, 32, 33, 34, 35, 36, 37, 38, 39, 40, 41, 42, 43] (by decide +kernel) (by decide +kernel)
set_option maxRecDepth 20000 in
theorem gX6_reach_X6_sets : GoodIn wsX6_reach (wsV RX6 216 RX6 yX6_sets wsX6_sets) := goodIn_app (goodIn_of _ (by decide +kernel)) ggX6_reach_X6_sets
theorem dX6_reach_0 : decode cX6_reach 0 = .ok (.iload_n 1, 1) := by decide +kernel
theorem dX6_reach_1 : decode cX6_reach 1 = .ok (.iconst 1, 1) := by decide +kernel
theorem dX6_reach_2 : decode cX6_reach 2 = .ok (.sipush 8000, 3) := by decide +kernel
theorem dX6_reach_5 : decode cX6_reach 5 = .ok (.invokestatic 38, 3) := by decide +kernel
theorem dX6_reach_8 : decode cX6_reach 8 = .ok (.ifCond .eq 12, 3) := by decide +kernel
theorem dX6_reach_11 : decode cX6_reach 11 = .ok (.aload_n 0, 1) := by decide +kernel
theorem dX6_reach_12 : decode cX6_reach 12 = .ok (.iconst 1, 1) := by decide +kernel
theorem dX6_reach_13 : decode cX6_reach 13 = .ok (.iload_n 1, 1) := by decide +kernel
theorem dX6_reach_14 : decode cX6_reach 14 = .ok (.invokevirtual 216, 3) := by decide +kernel
theorem dX6_reach_17 : decode cX6_reach 17 = .ok (.goto 5, 3) := by decide +kernel
theorem dX6_reach_20 : decode cX6_reach 20 = .ok (.ldc 184, 2) := by decide +kernel
theorem dX6_reach_22 : decode cX6_reach 22 = .ok (.ireturn, 1) := by decide +kernel
set_option maxRecDepth 20000 in
theorem ggX6_rule_X6_in : GoodIn wsX6_rule wsX6_in := goodIn_r _ [5] (by decide +kernel) (by decide +kernel)
set_option maxRecDepth 20000 in
theorem gX6_rule_X6_in : GoodIn wsX6_rule (va_wsS RX6 38 yX6_in wsX6_in) := goodIn_app (goodIn_of _ (by decide +kernel)) ggX6_rule_X6_in
set_option maxRecDepth 20000 in
theorem ggX6_rule_X6_sets : GoodIn wsX6_rule wsX6_sets := goodIn_r _ [9, 10, 11, 12, 13, 4, 14, 15, 16, 17, 18, 19, 20, 21, 22, 23, 24, 25, 26, 27, 28, 29, 30, 31, 32, 33, 34, 35, 36, 37, 38, 39, 40, 41, 42, 43] (by decide +kernel) (by decide +kernel)
set_option maxRecDepth 20000 in
theorem gX6_rule_X6_sets : GoodIn wsX6_rule (wsV RX6 216 RX6 yX6_sets wsX6_sets) := goodIn_app (goodIn_of _ (by decide +kernel)) ggX6_rule_X6_sets
theorem dX6_rule_0 : decode cX6_rule 0 = .ok (.iload_n 1, 1) := by decide +kernel
theorem dX6_rule_1 : decode cX6_rule 1 = .ok (.iconst 0, 1) := by decide +kernel
theorem dX6_rule_2 : decode cX6_rule 2 = .ok (.iconst 1, 1) := by decide +kernel
theorem dX6_rule_3 : decode cX6_rule 3 = .ok (.invokestatic 38, 3) := by decide +kernel
theorem dX6_rule_6 : decode cX6_rule 6 = .ok (.ifCond .eq 12, 3) := by decide +kernel
theorem dX6_rule_9 : decode cX6_rule 9 = .ok (.aload_n 0, 1) := by decide +kernel
theorem dX6_rule_10 : decode cX6_rule 10 = .ok (.iconst 2, 1) := by decide +kernel
theorem dX6_rule_11 : decode cX6_rule 11 = .ok (.iload_n 1, 1) := by decide +kernel
theorem dX6_rule_12 : decode cX6_rule 12 = .ok (.invokevirtual 216, 3) := by decide +kernel
theorem dX6_rule_15 : decode cX6_rule 15 = .ok (.goto 5, 3) := by decide +kernel
theorem dX6_rule_18 : decode cX6_rule 18 = .ok (.ldc 184, 2) := by decide +kernel
theorem dX6_rule_20 : decode cX6_rule 20 = .ok (.ireturn, 1) := by decide +kernel
theorem dX6_draw_0 : decode cX6_draw 0 = .ok (.aload_n 0, 1) := by decide +kernel
theorem dX6_draw_1 : decode cX6_draw 1 = .ok (.aload_n 0, 1) := by decide +kernel
theorem dX6_draw_2 : decode cX6_draw 2 = .ok (.getfield 181, 3) := by decide +kernel
theorem dX6_draw_5 : decode cX6_draw 5 = .ok (.i2l, 1) := by decide +kernel
theorem dX6_draw_6 : decode cX6_draw 6 = .ok (.ldc2_w 219, 3) := by decide +kernel
theorem dX6_draw_9 : decode cX6_draw 9 = .ok (.lmul, 1) := by decide +kernel
theorem dX6_draw_10 : decode cX6_draw 10 = .ok (.ldc2_w 221, 3) := by decide +kernel
theorem dX6_draw_13 : decode cX6_draw 13 = .ok (.ladd, 1) := by decide +kernel
theorem dX6_draw_14 : decode cX6_draw 14 = .ok (.ldc2_w 223, 3) := by decide +kernel
theorem dX6_draw_17 : decode cX6_draw 17 = .ok (.land, 1) := by decide +kernel
theorem dX6_draw_18 : decode cX6_draw 18 = .ok (.l2i, 1) := by decide +kernel
theorem dX6_draw_19 : decode cX6_draw 19 = .ok (.putfield 181, 3) := by decide +kernel
theorem dX6_draw_22 : decode cX6_draw 22 = .ok (.aload_n 0, 1) := by decide +kernel
theorem dX6_draw_23 : decode cX6_draw 23 = .ok (.getfield 181, 3) := by decide +kernel
theorem dX6_draw_26 : decode cX6_draw 26 = .ok (.ldc 225, 2) := by decide +kernel
theorem dX6_draw_28 : decode cX6_draw 28 = .ok (.idiv, 1) := by decide +kernel
theorem dX6_draw_29 : decode cX6_draw 29 = .ok (.iload_n 1, 1) := by decide +kernel
theorem dX6_draw_30 : decode cX6_draw 30 = .ok (.irem, 1) := by decide +kernel
theorem dX6_draw_31 : decode cX6_draw 31 = .ok (.ireturn, 1) := by decide +kernel
set_option maxRecDepth 20000 in
theorem ggX6_drift_X6_in : GoodIn wsX6_drift wsX6_in := goodIn_r _ [6] (by decide +kernel) (by decide +kernel)
set_option maxRecDepth 20000 in
theorem gX6_drift_X6_in : GoodIn wsX6_drift (va_wsS RX6 38 yX6_in wsX6_in) := goodIn_app (goodIn_of _ (by decide +kernel)) ggX6_drift_X6_in
set_option maxRecDepth 20000 in
theorem ggX6_drift_X6_draw : GoodIn wsX6_drift wsX6_draw := goodIn_r _ [10, 11, 12, 13, 14, 15, 31, 32, 33, 34, 35, 36, 37, 38, 39, 40, 41, 42, 43, 44, 45, 46, 47, 48, 49, 50, 51, 52, 53, 54, 55, 56] (by decide +kernel) (by decide +kernel)
set_option maxRecDepth 20000 in
theorem gX6_drift_X6_draw : GoodIn wsX6_drift (wsV RX6 226 RX6 yX6_draw wsX6_draw) := goodIn_app (goodIn_of _ (by decide +kernel)) ggX6_drift_X6_draw
set_option maxRecDepth 20000 in
theorem ggX6_drift_X6_nodeAt : GoodIn wsX6_drift wsX6_nodeAt := goodIn_r _ [19, 2, 31, 32, 33, 34, 35, 36, 37, 38, 39, 40, 41, 42, 43, 44, 45, 46, 47, 48, 49, 50, 51, 52, 53, 54, 55, 56] (by decide +kernel) (by decide +kernel)
set_option maxRecDepth 20000 in
theorem gX6_drift_X6_nodeAt : GoodIn wsX6_drift (wsV RX6 210 RX6 yX6_nodeAt wsX6_nodeAt) := goodIn_app (goodIn_of _ (by decide +kernel)) ggX6_drift_X6_nodeAt
set_option maxRecDepth 20000 in
theorem ggX6_drift_X6_comes : GoodIn wsX6_drift wsX6_comes := goodIn_r _ [23, 2, 24, 25, 26, 5, 27, 28, 29, 30, 31, 32, 33, 34, 35, 36, 37, 38, 39, 40, 41, 42, 43, 44, 45, 46, 47, 48, 49, 50, 51, 52, 53, 54, 55, 56] (by decide +kernel) (by decide +kernel)
set_option maxRecDepth 20000 in
theorem gX6_drift_X6_comes : GoodIn wsX6_drift (wsV RX6 213 RX6 yX6_comes wsX6_comes) := goodIn_app (goodIn_of _ (by decide +kernel)) ggX6_drift_X6_comes
theorem dX6_drift_0 : decode cX6_drift 0 = .ok (.iload_n 1, 1) := by decide +kernel
theorem dX6_drift_1 : decode cX6_drift 1 = .ok (.iconst 1, 1) := by decide +kernel
theorem dX6_drift_2 : decode cX6_drift 2 = .ok (.bipush 10, 2) := by decide +kernel
theorem dX6_drift_4 : decode cX6_drift 4 = .ok (.invokestatic 38, 3) := by decide +kernel
theorem dX6_drift_7 : decode cX6_drift 7 = .ok (.ifCond .ne 6, 3) := by decide +kernel
theorem dX6_drift_10 : decode cX6_drift 10 = .ok (.ldc 184, 2) := by decide +kernel
theorem dX6_drift_12 : decode cX6_drift 12 = .ok (.ireturn, 1) := by decide +kernel
theorem dX6_drift_13 : decode cX6_drift 13 = .ok (.iconst 0, 1) := by decide +kernel
theorem dX6_drift_14 : decode cX6_drift 14 = .ok (.istore_n 2, 1) := by decide +kernel
theorem dX6_drift_15 : decode cX6_drift 15 = .ok (.iload_n 2, 1) := by decide +kernel
theorem dX6_drift_16 : decode cX6_drift 16 = .ok (.iload_n 1, 1) := by decide +kernel
theorem dX6_drift_17 : decode cX6_drift 17 = .ok (.if_icmp .ge 54, 3) := by decide +kernel
theorem dX6_drift_20 : decode cX6_drift 20 = .ok (.aload_n 0, 1) := by decide +kernel
theorem dX6_drift_21 : decode cX6_drift 21 = .ok (.getfield 7, 3) := by decide +kernel
theorem dX6_drift_24 : decode cX6_drift 24 = .ok (.iconst 0, 1) := by decide +kernel
theorem dX6_drift_25 : decode cX6_drift 25 = .ok (.iaload, 1) := by decide +kernel
theorem dX6_drift_26 : decode cX6_drift 26 = .ok (.bipush 10, 2) := by decide +kernel
theorem dX6_drift_28 : decode cX6_drift 28 = .ok (.if_icmp .ge 43, 3) := by decide +kernel
theorem dX6_drift_31 : decode cX6_drift 31 = .ok (.aload_n 0, 1) := by decide +kernel
theorem dX6_drift_32 : decode cX6_drift 32 = .ok (.bipush 64, 2) := by decide +kernel
theorem dX6_drift_34 : decode cX6_drift 34 = .ok (.invokevirtual 226, 3) := by decide +kernel
theorem dX6_drift_37 : decode cX6_drift 37 = .ok (.istore_n 3, 1) := by decide +kernel
theorem dX6_drift_38 : decode cX6_drift 38 = .ok (.aload_n 0, 1) := by decide +kernel
theorem dX6_drift_39 : decode cX6_drift 39 = .ok (.bipush 64, 2) := by decide +kernel
theorem dX6_drift_41 : decode cX6_drift 41 = .ok (.invokevirtual 226, 3) := by decide +kernel
theorem dX6_drift_44 : decode cX6_drift 44 = .ok (.istore 4, 2) := by decide +kernel
theorem dX6_drift_46 : decode cX6_drift 46 = .ok (.aload_n 0, 1) := by decide +kernel
theorem dX6_drift_47 : decode cX6_drift 47 = .ok (.iload_n 3, 1) := by decide +kernel
theorem dX6_drift_48 : decode cX6_drift 48 = .ok (.iload 4, 2) := by decide +kernel
theorem dX6_drift_50 : decode cX6_drift 50 = .ok (.invokevirtual 210, 3) := by decide +kernel
theorem dX6_drift_53 : decode cX6_drift 53 = .ok (.iconst (-1), 1) := by decide +kernel
theorem dX6_drift_54 : decode cX6_drift 54 = .ok (.if_icmp .ne 11, 3) := by decide +kernel
theorem dX6_drift_57 : decode cX6_drift 57 = .ok (.aload_n 0, 1) := by decide +kernel
theorem dX6_drift_58 : decode cX6_drift 58 = .ok (.iload_n 3, 1) := by decide +kernel
theorem dX6_drift_59 : decode cX6_drift 59 = .ok (.iload 4, 2) := by decide +kernel
theorem dX6_drift_61 : decode cX6_drift 61 = .ok (.invokevirtual 213, 3) := by decide +kernel
theorem dX6_drift_64 : decode cX6_drift 64 = .ok (.pop, 1) := by decide +kernel
theorem dX6_drift_65 : decode cX6_drift 65 = .ok (.iinc 2 1, 3) := by decide +kernel
theorem dX6_drift_68 : decode cX6_drift 68 = .ok (.goto (-53), 3) := by decide +kernel
theorem dX6_drift_71 : decode cX6_drift 71 = .ok (.aload_n 0, 1) := by decide +kernel
theorem dX6_drift_72 : decode cX6_drift 72 = .ok (.getfield 7, 3) := by decide +kernel
theorem dX6_drift_75 : decode cX6_drift 75 = .ok (.iconst 0, 1) := by decide +kernel
theorem dX6_drift_76 : decode cX6_drift 76 = .ok (.iaload, 1) := by decide +kernel
theorem dX6_drift_77 : decode cX6_drift 77 = .ok (.ireturn, 1) := by decide +kernel
set_option maxRecDepth 20000 in
theorem ggX6_undo_X6_in : GoodIn wsX6_undo wsX6_in := goodIn_r _ [10] (by decide +kernel) (by decide +kernel)
set_option maxRecDepth 20000 in
theorem gX6_undo_X6_in : GoodIn wsX6_undo (va_wsS RX6 38 yX6_in wsX6_in) := goodIn_app (goodIn_of _ (by decide +kernel)) ggX6_undo_X6_in
theorem dX6_undo_0 : decode cX6_undo 0 = .ok (.iload_n 1, 1) := by decide +kernel
theorem dX6_undo_1 : decode cX6_undo 1 = .ok (.iconst 1, 1) := by decide +kernel
theorem dX6_undo_2 : decode cX6_undo 2 = .ok (.bipush 16, 2) := by decide +kernel
theorem dX6_undo_4 : decode cX6_undo 4 = .ok (.invokestatic 38, 3) := by decide +kernel
theorem dX6_undo_7 : decode cX6_undo 7 = .ok (.ifCond .ne 6, 3) := by decide +kernel
theorem dX6_undo_10 : decode cX6_undo 10 = .ok (.ldc 184, 2) := by decide +kernel
theorem dX6_undo_12 : decode cX6_undo 12 = .ok (.ireturn, 1) := by decide +kernel
theorem dX6_undo_13 : decode cX6_undo 13 = .ok (.iload_n 1, 1) := by decide +kernel
theorem dX6_undo_14 : decode cX6_undo 14 = .ok (.aload_n 0, 1) := by decide +kernel
theorem dX6_undo_15 : decode cX6_undo 15 = .ok (.getfield 178, 3) := by decide +kernel
theorem dX6_undo_18 : decode cX6_undo 18 = .ok (.if_icmp .le 6, 3) := by decide +kernel
theorem dX6_undo_21 : decode cX6_undo 21 = .ok (.ldc 196, 2) := by decide +kernel
theorem dX6_undo_23 : decode cX6_undo 23 = .ok (.ireturn, 1) := by decide +kernel
theorem dX6_undo_24 : decode cX6_undo 24 = .ok (.aload_n 0, 1) := by decide +kernel
theorem dX6_undo_25 : decode cX6_undo 25 = .ok (.aload_n 0, 1) := by decide +kernel
theorem dX6_undo_26 : decode cX6_undo 26 = .ok (.getfield 200, 3) := by decide +kernel
theorem dX6_undo_29 : decode cX6_undo 29 = .ok (.bipush 16, 2) := by decide +kernel
theorem dX6_undo_31 : decode cX6_undo 31 = .ok (.iadd, 1) := by decide +kernel
theorem dX6_undo_32 : decode cX6_undo 32 = .ok (.iload_n 1, 1) := by decide +kernel
theorem dX6_undo_33 : decode cX6_undo 33 = .ok (.isub, 1) := by decide +kernel
theorem dX6_undo_34 : decode cX6_undo 34 = .ok (.bipush 16, 2) := by decide +kernel
theorem dX6_undo_36 : decode cX6_undo 36 = .ok (.irem, 1) := by decide +kernel
theorem dX6_undo_37 : decode cX6_undo 37 = .ok (.putfield 200, 3) := by decide +kernel
theorem dX6_undo_40 : decode cX6_undo 40 = .ok (.aload_n 0, 1) := by decide +kernel
theorem dX6_undo_41 : decode cX6_undo 41 = .ok (.dup, 1) := by decide +kernel
theorem dX6_undo_42 : decode cX6_undo 42 = .ok (.getfield 178, 3) := by decide +kernel
theorem dX6_undo_45 : decode cX6_undo 45 = .ok (.iload_n 1, 1) := by decide +kernel
theorem dX6_undo_46 : decode cX6_undo 46 = .ok (.isub, 1) := by decide +kernel
theorem dX6_undo_47 : decode cX6_undo 47 = .ok (.putfield 178, 3) := by decide +kernel
theorem dX6_undo_50 : decode cX6_undo 50 = .ok (.iconst 0, 1) := by decide +kernel
theorem dX6_undo_51 : decode cX6_undo 51 = .ok (.istore_n 2, 1) := by decide +kernel
theorem dX6_undo_52 : decode cX6_undo 52 = .ok (.iload_n 2, 1) := by decide +kernel
theorem dX6_undo_53 : decode cX6_undo 53 = .ok (.bipush 24, 2) := by decide +kernel
theorem dX6_undo_55 : decode cX6_undo 55 = .ok (.if_icmp .ge 29, 3) := by decide +kernel
theorem dX6_undo_58 : decode cX6_undo 58 = .ok (.aload_n 0, 1) := by decide +kernel
theorem dX6_undo_59 : decode cX6_undo 59 = .ok (.getfield 7, 3) := by decide +kernel
theorem dX6_undo_62 : decode cX6_undo 62 = .ok (.iload_n 2, 1) := by decide +kernel
theorem dX6_undo_63 : decode cX6_undo 63 = .ok (.aload_n 0, 1) := by decide +kernel
theorem dX6_undo_64 : decode cX6_undo 64 = .ok (.getfield 13, 3) := by decide +kernel
theorem dX6_undo_67 : decode cX6_undo 67 = .ok (.bipush 24, 2) := by decide +kernel
theorem dX6_undo_69 : decode cX6_undo 69 = .ok (.aload_n 0, 1) := by decide +kernel
theorem dX6_undo_70 : decode cX6_undo 70 = .ok (.getfield 200, 3) := by decide +kernel
theorem dX6_undo_73 : decode cX6_undo 73 = .ok (.imul, 1) := by decide +kernel
theorem dX6_undo_74 : decode cX6_undo 74 = .ok (.iload_n 2, 1) := by decide +kernel
theorem dX6_undo_75 : decode cX6_undo 75 = .ok (.iadd, 1) := by decide +kernel
theorem dX6_undo_76 : decode cX6_undo 76 = .ok (.iaload, 1) := by decide +kernel
theorem dX6_undo_77 : decode cX6_undo 77 = .ok (.iastore, 1) := by decide +kernel
theorem dX6_undo_78 : decode cX6_undo 78 = .ok (.iinc 2 1, 3) := by decide +kernel
theorem dX6_undo_81 : decode cX6_undo 81 = .ok (.goto (-29), 3) := by decide +kernel
theorem dX6_undo_84 : decode cX6_undo 84 = .ok (.aload_n 0, 1) := by decide +kernel
theorem dX6_undo_85 : decode cX6_undo 85 = .ok (.getfield 178, 3) := by decide +kernel
theorem dX6_undo_88 : decode cX6_undo 88 = .ok (.ireturn, 1) := by decide +kernel
set_option maxRecDepth 20000 in
theorem ggX6_write_X6_isNode : GoodIn wsX6_write wsX6_isNode := goodIn_r _ [11, 12, 13, 14, 10, 15, 16, 17, 18, 19, 20, 21, 22, 23, 24, 25, 26, 27, 28, 29, 30, 31, 32, 33, 34, 35, 36, 37, 38, 39, 40, 41] (by decide +kernel) (by decide +kernel)
set_option maxRecDepth 20000 in
theorem gX6_write_X6_isNode : GoodIn wsX6_write (wsV RX6 152 RX6 yX6_isNode wsX6_isNode) := goodIn_app (goodIn_of _ (by decide +kernel)) ggX6_write_X6_isNode
theorem dX6_write_0 : decode cX6_write 0 = .ok (.aload_n 0, 1) := by decide +kernel
theorem dX6_write_1 : decode cX6_write 1 = .ok (.iload_n 1, 1) := by decide +kernel
theorem dX6_write_2 : decode cX6_write 2 = .ok (.invokevirtual 152, 3) := by decide +kernel
theorem dX6_write_5 : decode cX6_write 5 = .ok (.ifCond .eq 11, 3) := by decide +kernel
theorem dX6_write_8 : decode cX6_write 8 = .ok (.aload_n 0, 1) := by decide +kernel
theorem dX6_write_9 : decode cX6_write 9 = .ok (.iload_n 2, 1) := by decide +kernel
theorem dX6_write_10 : decode cX6_write 10 = .ok (.invokevirtual 152, 3) := by decide +kernel
theorem dX6_write_13 : decode cX6_write 13 = .ok (.ifCond .ne 6, 3) := by decide +kernel
theorem dX6_write_16 : decode cX6_write 16 = .ok (.ldc 185, 2) := by decide +kernel
theorem dX6_write_18 : decode cX6_write 18 = .ok (.ireturn, 1) := by decide +kernel
theorem dX6_write_19 : decode cX6_write 19 = .ok (.aload_n 0, 1) := by decide +kernel
theorem dX6_write_20 : decode cX6_write 20 = .ok (.getfield 149, 3) := by decide +kernel
theorem dX6_write_23 : decode cX6_write 23 = .ok (.bipush 20, 2) := by decide +kernel
theorem dX6_write_25 : decode cX6_write 25 = .ok (.if_icmp .ne 6, 3) := by decide +kernel
theorem dX6_write_28 : decode cX6_write 28 = .ok (.ldc 209, 2) := by decide +kernel
theorem dX6_write_30 : decode cX6_write 30 = .ok (.ireturn, 1) := by decide +kernel
theorem dX6_write_31 : decode cX6_write 31 = .ok (.aload_n 0, 1) := by decide +kernel
theorem dX6_write_32 : decode cX6_write 32 = .ok (.getfield 23, 3) := by decide +kernel
theorem dX6_write_35 : decode cX6_write 35 = .ok (.aload_n 0, 1) := by decide +kernel
theorem dX6_write_36 : decode cX6_write 36 = .ok (.getfield 149, 3) := by decide +kernel
theorem dX6_write_39 : decode cX6_write 39 = .ok (.iload_n 1, 1) := by decide +kernel
theorem dX6_write_40 : decode cX6_write 40 = .ok (.iastore, 1) := by decide +kernel
theorem dX6_write_41 : decode cX6_write 41 = .ok (.aload_n 0, 1) := by decide +kernel
theorem dX6_write_42 : decode cX6_write 42 = .ok (.getfield 26, 3) := by decide +kernel
theorem dX6_write_45 : decode cX6_write 45 = .ok (.aload_n 0, 1) := by decide +kernel
theorem dX6_write_46 : decode cX6_write 46 = .ok (.getfield 149, 3) := by decide +kernel
theorem dX6_write_49 : decode cX6_write 49 = .ok (.iload_n 2, 1) := by decide +kernel
theorem dX6_write_50 : decode cX6_write 50 = .ok (.iastore, 1) := by decide +kernel
theorem dX6_write_51 : decode cX6_write 51 = .ok (.aload_n 0, 1) := by decide +kernel
theorem dX6_write_52 : decode cX6_write 52 = .ok (.getfield 29, 3) := by decide +kernel
theorem dX6_write_55 : decode cX6_write 55 = .ok (.aload_n 0, 1) := by decide +kernel
theorem dX6_write_56 : decode cX6_write 56 = .ok (.getfield 149, 3) := by decide +kernel
theorem dX6_write_59 : decode cX6_write 59 = .ok (.iload_n 3, 1) := by decide +kernel
theorem dX6_write_60 : decode cX6_write 60 = .ok (.iastore, 1) := by decide +kernel
theorem dX6_write_61 : decode cX6_write 61 = .ok (.aload_n 0, 1) := by decide +kernel
theorem dX6_write_62 : decode cX6_write 62 = .ok (.dup, 1) := by decide +kernel
theorem dX6_write_63 : decode cX6_write 63 = .ok (.getfield 149, 3) := by decide +kernel
theorem dX6_write_66 : decode cX6_write 66 = .ok (.iconst 1, 1) := by decide +kernel
theorem dX6_write_67 : decode cX6_write 67 = .ok (.iadd, 1) := by decide +kernel
theorem dX6_write_68 : decode cX6_write 68 = .ok (.putfield 149, 3) := by decide +kernel
theorem dX6_write_71 : decode cX6_write 71 = .ok (.aload_n 0, 1) := by decide +kernel
theorem dX6_write_72 : decode cX6_write 72 = .ok (.getfield 149, 3) := by decide +kernel
theorem dX6_write_75 : decode cX6_write 75 = .ok (.ireturn, 1) := by decide +kernel
theorem dX6_tear_0 : decode cX6_tear 0 = .ok (.aload_n 0, 1) := by decide +kernel
theorem dX6_tear_1 : decode cX6_tear 1 = .ok (.getfield 149, 3) := by decide +kernel
theorem dX6_tear_4 : decode cX6_tear 4 = .ok (.istore_n 1, 1) := by decide +kernel
theorem dX6_tear_5 : decode cX6_tear 5 = .ok (.aload_n 0, 1) := by decide +kernel
theorem dX6_tear_6 : decode cX6_tear 6 = .ok (.iconst 0, 1) := by decide +kernel
theorem dX6_tear_7 : decode cX6_tear 7 = .ok (.putfield 149, 3) := by decide +kernel
theorem dX6_tear_10 : decode cX6_tear 10 = .ok (.iload_n 1, 1) := by decide +kernel
theorem dX6_tear_11 : decode cX6_tear 11 = .ok (.ireturn, 1) := by decide +kernel
theorem dX6_seed_0 : decode cX6_seed 0 = .ok (.iload_n 1, 1) := by decide +kernel
theorem dX6_seed_1 : decode cX6_seed 1 = .ok (.ifCond .ge 6, 3) := by decide +kernel
theorem dX6_seed_4 : decode cX6_seed 4 = .ok (.ldc 184, 2) := by decide +kernel
theorem dX6_seed_6 : decode cX6_seed 6 = .ok (.ireturn, 1) := by decide +kernel
theorem dX6_seed_7 : decode cX6_seed 7 = .ok (.aload_n 0, 1) := by decide +kernel
theorem dX6_seed_8 : decode cX6_seed 8 = .ok (.getfield 181, 3) := by decide +kernel
theorem dX6_seed_11 : decode cX6_seed 11 = .ok (.istore_n 2, 1) := by decide +kernel
theorem dX6_seed_12 : decode cX6_seed 12 = .ok (.aload_n 0, 1) := by decide +kernel
theorem dX6_seed_13 : decode cX6_seed 13 = .ok (.iload_n 1, 1) := by decide +kernel
theorem dX6_seed_14 : decode cX6_seed 14 = .ok (.putfield 181, 3) := by decide +kernel
theorem dX6_seed_17 : decode cX6_seed 17 = .ok (.iload_n 2, 1) := by decide +kernel
theorem dX6_seed_18 : decode cX6_seed 18 = .ok (.ireturn, 1) := by decide +kernel
set_option maxRecDepth 20000 in
theorem ggX6_keep_X6_in : GoodIn wsX6_keep wsX6_in := goodIn_r _ [10] (by decide +kernel) (by decide +kernel)
set_option maxRecDepth 20000 in
theorem gX6_keep_X6_in : GoodIn wsX6_keep (va_wsS RX6 38 yX6_in wsX6_in) := goodIn_app (goodIn_of _ (by decide +kernel)) ggX6_keep_X6_in
theorem dX6_keep_0 : decode cX6_keep 0 = .ok (.iload_n 1, 1) := by decide +kernel
theorem dX6_keep_1 : decode cX6_keep 1 = .ok (.iconst 0, 1) := by decide +kernel
theorem dX6_keep_2 : decode cX6_keep 2 = .ok (.iconst 1, 1) := by decide +kernel
theorem dX6_keep_3 : decode cX6_keep 3 = .ok (.invokestatic 38, 3) := by decide +kernel
theorem dX6_keep_6 : decode cX6_keep 6 = .ok (.ifCond .ne 6, 3) := by decide +kernel
theorem dX6_keep_9 : decode cX6_keep 9 = .ok (.ldc 185, 2) := by decide +kernel
theorem dX6_keep_11 : decode cX6_keep 11 = .ok (.ireturn, 1) := by decide +kernel
theorem dX6_keep_12 : decode cX6_keep 12 = .ok (.aload_n 0, 1) := by decide +kernel
theorem dX6_keep_13 : decode cX6_keep 13 = .ok (.getfield 16, 3) := by decide +kernel
theorem dX6_keep_16 : decode cX6_keep 16 = .ok (.iload_n 1, 1) := by decide +kernel
theorem dX6_keep_17 : decode cX6_keep 17 = .ok (.iconst 1, 1) := by decide +kernel
theorem dX6_keep_18 : decode cX6_keep 18 = .ok (.bastore, 1) := by decide +kernel
theorem dX6_keep_19 : decode cX6_keep 19 = .ok (.iconst 0, 1) := by decide +kernel
theorem dX6_keep_20 : decode cX6_keep 20 = .ok (.istore_n 2, 1) := by decide +kernel
theorem dX6_keep_21 : decode cX6_keep 21 = .ok (.iload_n 2, 1) := by decide +kernel
theorem dX6_keep_22 : decode cX6_keep 22 = .ok (.bipush 24, 2) := by decide +kernel
theorem dX6_keep_24 : decode cX6_keep 24 = .ok (.if_icmp .ge 26, 3) := by decide +kernel
theorem dX6_keep_27 : decode cX6_keep 27 = .ok (.aload_n 0, 1) := by decide +kernel
theorem dX6_keep_28 : decode cX6_keep 28 = .ok (.getfield 20, 3) := by decide +kernel
theorem dX6_keep_31 : decode cX6_keep 31 = .ok (.bipush 25, 2) := by decide +kernel
theorem dX6_keep_33 : decode cX6_keep 33 = .ok (.iload_n 1, 1) := by decide +kernel
theorem dX6_keep_34 : decode cX6_keep 34 = .ok (.imul, 1) := by decide +kernel
theorem dX6_keep_35 : decode cX6_keep 35 = .ok (.iload_n 2, 1) := by decide +kernel
theorem dX6_keep_36 : decode cX6_keep 36 = .ok (.iadd, 1) := by decide +kernel
theorem dX6_keep_37 : decode cX6_keep 37 = .ok (.aload_n 0, 1) := by decide +kernel
theorem dX6_keep_38 : decode cX6_keep 38 = .ok (.getfield 7, 3) := by decide +kernel
theorem dX6_keep_41 : decode cX6_keep 41 = .ok (.iload_n 2, 1) := by decide +kernel
theorem dX6_keep_42 : decode cX6_keep 42 = .ok (.iaload, 1) := by decide +kernel
theorem dX6_keep_43 : decode cX6_keep 43 = .ok (.iastore, 1) := by decide +kernel
theorem dX6_keep_44 : decode cX6_keep 44 = .ok (.iinc 2 1, 3) := by decide +kernel
theorem dX6_keep_47 : decode cX6_keep 47 = .ok (.goto (-26), 3) := by decide +kernel
theorem dX6_keep_50 : decode cX6_keep 50 = .ok (.aload_n 0, 1) := by decide +kernel
theorem dX6_keep_51 : decode cX6_keep 51 = .ok (.getfield 20, 3) := by decide +kernel
theorem dX6_keep_54 : decode cX6_keep 54 = .ok (.bipush 25, 2) := by decide +kernel
theorem dX6_keep_56 : decode cX6_keep 56 = .ok (.iload_n 1, 1) := by decide +kernel
theorem dX6_keep_57 : decode cX6_keep 57 = .ok (.imul, 1) := by decide +kernel
theorem dX6_keep_58 : decode cX6_keep 58 = .ok (.bipush 24, 2) := by decide +kernel
theorem dX6_keep_60 : decode cX6_keep 60 = .ok (.iadd, 1) := by decide +kernel
theorem dX6_keep_61 : decode cX6_keep 61 = .ok (.aload_n 0, 1) := by decide +kernel
theorem dX6_keep_62 : decode cX6_keep 62 = .ok (.getfield 181, 3) := by decide +kernel
theorem dX6_keep_65 : decode cX6_keep 65 = .ok (.iastore, 1) := by decide +kernel
theorem dX6_keep_66 : decode cX6_keep 66 = .ok (.aload_n 0, 1) := by decide +kernel
theorem dX6_keep_67 : decode cX6_keep 67 = .ok (.iconst 0, 1) := by decide +kernel
theorem dX6_keep_68 : decode cX6_keep 68 = .ok (.putfield 178, 3) := by decide +kernel
theorem dX6_keep_71 : decode cX6_keep 71 = .ok (.iconst 1, 1) := by decide +kernel
theorem dX6_keep_72 : decode cX6_keep 72 = .ok (.ireturn, 1) := by decide +kernel
set_option maxRecDepth 20000 in
theorem ggX6_goBack_X6_in : GoodIn wsX6_goBack wsX6_in := goodIn_r _ [11] (by decide +kernel) (by decide +kernel)
set_option maxRecDepth 20000 in
theorem gX6_goBack_X6_in : GoodIn wsX6_goBack (va_wsS RX6 38 yX6_in wsX6_in) := goodIn_app (goodIn_of _ (by decide +kernel)) ggX6_goBack_X6_in
theorem dX6_goBack_0 : decode cX6_goBack 0 = .ok (.iload_n 1, 1) := by decide +kernel
theorem dX6_goBack_1 : decode cX6_goBack 1 = .ok (.iconst 0, 1) := by decide +kernel
theorem dX6_goBack_2 : decode cX6_goBack 2 = .ok (.iconst 1, 1) := by decide +kernel
theorem dX6_goBack_3 : decode cX6_goBack 3 = .ok (.invokestatic 38, 3) := by decide +kernel
theorem dX6_goBack_6 : decode cX6_goBack 6 = .ok (.ifCond .ne 6, 3) := by decide +kernel
theorem dX6_goBack_9 : decode cX6_goBack 9 = .ok (.ldc 185, 2) := by decide +kernel
theorem dX6_goBack_11 : decode cX6_goBack 11 = .ok (.ireturn, 1) := by decide +kernel
theorem dX6_goBack_12 : decode cX6_goBack 12 = .ok (.aload_n 0, 1) := by decide +kernel
theorem dX6_goBack_13 : decode cX6_goBack 13 = .ok (.getfield 16, 3) := by decide +kernel
theorem dX6_goBack_16 : decode cX6_goBack 16 = .ok (.iload_n 1, 1) := by decide +kernel
theorem dX6_goBack_17 : decode cX6_goBack 17 = .ok (.baload, 1) := by decide +kernel
theorem dX6_goBack_18 : decode cX6_goBack 18 = .ok (.ifCond .ne 6, 3) := by decide +kernel
theorem dX6_goBack_21 : decode cX6_goBack 21 = .ok (.ldc 196, 2) := by decide +kernel
theorem dX6_goBack_23 : decode cX6_goBack 23 = .ok (.ireturn, 1) := by decide +kernel
theorem dX6_goBack_24 : decode cX6_goBack 24 = .ok (.iconst 0, 1) := by decide +kernel
theorem dX6_goBack_25 : decode cX6_goBack 25 = .ok (.istore_n 2, 1) := by decide +kernel
theorem dX6_goBack_26 : decode cX6_goBack 26 = .ok (.iload_n 2, 1) := by decide +kernel
theorem dX6_goBack_27 : decode cX6_goBack 27 = .ok (.bipush 24, 2) := by decide +kernel
theorem dX6_goBack_29 : decode cX6_goBack 29 = .ok (.if_icmp .ge 26, 3) := by decide +kernel
theorem dX6_goBack_32 : decode cX6_goBack 32 = .ok (.aload_n 0, 1) := by decide +kernel
theorem dX6_goBack_33 : decode cX6_goBack 33 = .ok (.getfield 7, 3) := by decide +kernel
theorem dX6_goBack_36 : decode cX6_goBack 36 = .ok (.iload_n 2, 1) := by decide +kernel
theorem dX6_goBack_37 : decode cX6_goBack 37 = .ok (.aload_n 0, 1) := by decide +kernel
theorem dX6_goBack_38 : decode cX6_goBack 38 = .ok (.getfield 20, 3) := by decide +kernel
theorem dX6_goBack_41 : decode cX6_goBack 41 = .ok (.bipush 25, 2) := by decide +kernel
theorem dX6_goBack_43 : decode cX6_goBack 43 = .ok (.iload_n 1, 1) := by decide +kernel
theorem dX6_goBack_44 : decode cX6_goBack 44 = .ok (.imul, 1) := by decide +kernel
theorem dX6_goBack_45 : decode cX6_goBack 45 = .ok (.iload_n 2, 1) := by decide +kernel
theorem dX6_goBack_46 : decode cX6_goBack 46 = .ok (.iadd, 1) := by decide +kernel
theorem dX6_goBack_47 : decode cX6_goBack 47 = .ok (.iaload, 1) := by decide +kernel
theorem dX6_goBack_48 : decode cX6_goBack 48 = .ok (.iastore, 1) := by decide +kernel
theorem dX6_goBack_49 : decode cX6_goBack 49 = .ok (.iinc 2 1, 3) := by decide +kernel
theorem dX6_goBack_52 : decode cX6_goBack 52 = .ok (.goto (-26), 3) := by decide +kernel
theorem dX6_goBack_55 : decode cX6_goBack 55 = .ok (.aload_n 0, 1) := by decide +kernel
theorem dX6_goBack_56 : decode cX6_goBack 56 = .ok (.aload_n 0, 1) := by decide +kernel
theorem dX6_goBack_57 : decode cX6_goBack 57 = .ok (.getfield 20, 3) := by decide +kernel
theorem dX6_goBack_60 : decode cX6_goBack 60 = .ok (.bipush 25, 2) := by decide +kernel
theorem dX6_goBack_62 : decode cX6_goBack 62 = .ok (.iload_n 1, 1) := by decide +kernel
theorem dX6_goBack_63 : decode cX6_goBack 63 = .ok (.imul, 1) := by decide +kernel
theorem dX6_goBack_64 : decode cX6_goBack 64 = .ok (.bipush 24, 2) := by decide +kernel
theorem dX6_goBack_66 : decode cX6_goBack 66 = .ok (.iadd, 1) := by decide +kernel
theorem dX6_goBack_67 : decode cX6_goBack 67 = .ok (.iaload, 1) := by decide +kernel
theorem dX6_goBack_68 : decode cX6_goBack 68 = .ok (.putfield 181, 3) := by decide +kernel
theorem dX6_goBack_71 : decode cX6_goBack 71 = .ok (.aload_n 0, 1) := by decide +kernel
theorem dX6_goBack_72 : decode cX6_goBack 72 = .ok (.iconst 0, 1) := by decide +kernel
theorem dX6_goBack_73 : decode cX6_goBack 73 = .ok (.putfield 178, 3) := by decide +kernel
theorem dX6_goBack_76 : decode cX6_goBack 76 = .ok (.iconst 1, 1) := by decide +kernel
theorem dX6_goBack_77 : decode cX6_goBack 77 = .ok (.ireturn, 1) := by decide +kernel
theorem dJ6_bitCount_0f7a4_0 : decode cJ6_bitCount_0f7a4 0 = .ok (.iload_n 0, 1) := by decide +kernel
theorem dJ6_bitCount_0f7a4_1 : decode cJ6_bitCount_0f7a4 1 = .ok (.iload_n 0, 1) := by decide +kernel
theorem dJ6_bitCount_0f7a4_2 : decode cJ6_bitCount_0f7a4 2 = .ok (.iconst 1, 1) := by decide +kernel
theorem dJ6_bitCount_0f7a4_3 : decode cJ6_bitCount_0f7a4 3 = .ok (.iushr, 1) := by decide +kernel
theorem dJ6_bitCount_0f7a4_4 : decode cJ6_bitCount_0f7a4 4 = .ok (.ldc_w 265, 3) := by decide +kernel
theorem dJ6_bitCount_0f7a4_7 : decode cJ6_bitCount_0f7a4 7 = .ok (.iand, 1) := by decide +kernel
theorem dJ6_bitCount_0f7a4_8 : decode cJ6_bitCount_0f7a4 8 = .ok (.isub, 1) := by decide +kernel
theorem dJ6_bitCount_0f7a4_9 : decode cJ6_bitCount_0f7a4 9 = .ok (.istore_n 0, 1) := by decide +kernel
theorem dJ6_bitCount_0f7a4_10 : decode cJ6_bitCount_0f7a4 10 = .ok (.iload_n 0, 1) := by decide +kernel
theorem dJ6_bitCount_0f7a4_11 : decode cJ6_bitCount_0f7a4 11 = .ok (.ldc_w 266, 3) := by decide +kernel
theorem dJ6_bitCount_0f7a4_14 : decode cJ6_bitCount_0f7a4 14 = .ok (.iand, 1) := by decide +kernel
theorem dJ6_bitCount_0f7a4_15 : decode cJ6_bitCount_0f7a4 15 = .ok (.iload_n 0, 1) := by decide +kernel
theorem dJ6_bitCount_0f7a4_16 : decode cJ6_bitCount_0f7a4 16 = .ok (.iconst 2, 1) := by decide +kernel
theorem dJ6_bitCount_0f7a4_17 : decode cJ6_bitCount_0f7a4 17 = .ok (.iushr, 1) := by decide +kernel
theorem dJ6_bitCount_0f7a4_18 : decode cJ6_bitCount_0f7a4 18 = .ok (.ldc_w 266, 3) := by decide +kernel
theorem dJ6_bitCount_0f7a4_21 : decode cJ6_bitCount_0f7a4 21 = .ok (.iand, 1) := by decide +kernel
theorem dJ6_bitCount_0f7a4_22 : decode cJ6_bitCount_0f7a4 22 = .ok (.iadd, 1) := by decide +kernel
theorem dJ6_bitCount_0f7a4_23 : decode cJ6_bitCount_0f7a4 23 = .ok (.istore_n 0, 1) := by decide +kernel
theorem dJ6_bitCount_0f7a4_24 : decode cJ6_bitCount_0f7a4 24 = .ok (.iload_n 0, 1) := by decide +kernel
theorem dJ6_bitCount_0f7a4_25 : decode cJ6_bitCount_0f7a4 25 = .ok (.iload_n 0, 1) := by decide +kernel
theorem dJ6_bitCount_0f7a4_26 : decode cJ6_bitCount_0f7a4 26 = .ok (.iconst 4, 1) := by decide +kernel
theorem dJ6_bitCount_0f7a4_27 : decode cJ6_bitCount_0f7a4 27 = .ok (.iushr, 1) := by decide +kernel
theorem dJ6_bitCount_0f7a4_28 : decode cJ6_bitCount_0f7a4 28 = .ok (.iadd, 1) := by decide +kernel
theorem dJ6_bitCount_0f7a4_29 : decode cJ6_bitCount_0f7a4 29 = .ok (.ldc_w 267, 3) := by decide +kernel
theorem dJ6_bitCount_0f7a4_32 : decode cJ6_bitCount_0f7a4 32 = .ok (.iand, 1) := by decide +kernel
theorem dJ6_bitCount_0f7a4_33 : decode cJ6_bitCount_0f7a4 33 = .ok (.istore_n 0, 1) := by decide +kernel
theorem dJ6_bitCount_0f7a4_34 : decode cJ6_bitCount_0f7a4 34 = .ok (.iload_n 0, 1) := by decide +kernel
theorem dJ6_bitCount_0f7a4_35 : decode cJ6_bitCount_0f7a4 35 = .ok (.iload_n 0, 1) := by decide +kernel
theorem dJ6_bitCount_0f7a4_36 : decode cJ6_bitCount_0f7a4 36 = .ok (.bipush 8, 2) := by decide +kernel
theorem dJ6_bitCount_0f7a4_38 : decode cJ6_bitCount_0f7a4 38 = .ok (.iushr, 1) := by decide +kernel
theorem dJ6_bitCount_0f7a4_39 : decode cJ6_bitCount_0f7a4 39 = .ok (.iadd, 1) := by decide +kernel
theorem dJ6_bitCount_0f7a4_40 : decode cJ6_bitCount_0f7a4 40 = .ok (.istore_n 0, 1) := by decide +kernel
theorem dJ6_bitCount_0f7a4_41 : decode cJ6_bitCount_0f7a4 41 = .ok (.iload_n 0, 1) := by decide +kernel
theorem dJ6_bitCount_0f7a4_42 : decode cJ6_bitCount_0f7a4 42 = .ok (.iload_n 0, 1) := by decide +kernel
theorem dJ6_bitCount_0f7a4_43 : decode cJ6_bitCount_0f7a4 43 = .ok (.bipush 16, 2) := by decide +kernel
theorem dJ6_bitCount_0f7a4_45 : decode cJ6_bitCount_0f7a4 45 = .ok (.iushr, 1) := by decide +kernel
theorem dJ6_bitCount_0f7a4_46 : decode cJ6_bitCount_0f7a4 46 = .ok (.iadd, 1) := by decide +kernel
theorem dJ6_bitCount_0f7a4_47 : decode cJ6_bitCount_0f7a4 47 = .ok (.istore_n 0, 1) := by decide +kernel
theorem dJ6_bitCount_0f7a4_48 : decode cJ6_bitCount_0f7a4 48 = .ok (.iload_n 0, 1) := by decide +kernel
theorem dJ6_bitCount_0f7a4_49 : decode cJ6_bitCount_0f7a4 49 = .ok (.bipush 63, 2) := by decide +kernel
theorem dJ6_bitCount_0f7a4_51 : decode cJ6_bitCount_0f7a4 51 = .ok (.iand, 1) := by decide +kernel
theorem dJ6_bitCount_0f7a4_52 : decode cJ6_bitCount_0f7a4 52 = .ok (.ireturn, 1) := by decide +kernel
theorem dJ9_floorMod_7cf53_0 : decode cJ9_floorMod_7cf53 0 = .ok (.iload_n 0, 1) := by decide +kernel
theorem dJ9_floorMod_7cf53_1 : decode cJ9_floorMod_7cf53 1 = .ok (.iload_n 1, 1) := by decide +kernel
theorem dJ9_floorMod_7cf53_2 : decode cJ9_floorMod_7cf53 2 = .ok (.irem, 1) := by decide +kernel
theorem dJ9_floorMod_7cf53_3 : decode cJ9_floorMod_7cf53 3 = .ok (.istore_n 2, 1) := by decide +kernel
theorem dJ9_floorMod_7cf53_4 : decode cJ9_floorMod_7cf53 4 = .ok (.iload_n 0, 1) := by decide +kernel
theorem dJ9_floorMod_7cf53_5 : decode cJ9_floorMod_7cf53 5 = .ok (.iload_n 1, 1) := by decide +kernel
theorem dJ9_floorMod_7cf53_6 : decode cJ9_floorMod_7cf53 6 = .ok (.ixor, 1) := by decide +kernel
theorem dJ9_floorMod_7cf53_7 : decode cJ9_floorMod_7cf53 7 = .ok (.ifCond .ge 11, 3) := by decide +kernel
theorem dJ9_floorMod_7cf53_10 : decode cJ9_floorMod_7cf53 10 = .ok (.iload_n 2, 1) := by decide +kernel
theorem dJ9_floorMod_7cf53_11 : decode cJ9_floorMod_7cf53 11 = .ok (.ifCond .eq 7, 3) := by decide +kernel
theorem dJ9_floorMod_7cf53_14 : decode cJ9_floorMod_7cf53 14 = .ok (.iload_n 2, 1) := by decide +kernel
theorem dJ9_floorMod_7cf53_15 : decode cJ9_floorMod_7cf53 15 = .ok (.iload_n 1, 1) := by decide +kernel
theorem dJ9_floorMod_7cf53_16 : decode cJ9_floorMod_7cf53 16 = .ok (.iadd, 1) := by decide +kernel
theorem dJ9_floorMod_7cf53_17 : decode cJ9_floorMod_7cf53 17 = .ok (.ireturn, 1) := by decide +kernel
theorem dJ9_floorMod_7cf53_18 : decode cJ9_floorMod_7cf53 18 = .ok (.iload_n 2, 1) := by decide +kernel
theorem dJ9_floorMod_7cf53_19 : decode cJ9_floorMod_7cf53 19 = .ok (.ireturn, 1) := by decide +kernel
theorem dJ9_max_7cf53_0 : decode cJ9_max_7cf53 0 = .ok (.iload_n 0, 1) := by decide +kernel
theorem dJ9_max_7cf53_1 : decode cJ9_max_7cf53 1 = .ok (.iload_n 1, 1) := by decide +kernel
theorem dJ9_max_7cf53_2 : decode cJ9_max_7cf53 2 = .ok (.if_icmp .lt 7, 3) := by decide +kernel
theorem dJ9_max_7cf53_5 : decode cJ9_max_7cf53 5 = .ok (.iload_n 0, 1) := by decide +kernel
theorem dJ9_max_7cf53_6 : decode cJ9_max_7cf53 6 = .ok (.goto 4, 3) := by decide +kernel
theorem dJ9_max_7cf53_9 : decode cJ9_max_7cf53 9 = .ok (.iload_n 1, 1) := by decide +kernel
theorem dJ9_max_7cf53_10 : decode cJ9_max_7cf53 10 = .ok (.ireturn, 1) := by decide +kernel
theorem dJ9_min_7cf53_0 : decode cJ9_min_7cf53 0 = .ok (.iload_n 0, 1) := by decide +kernel
theorem dJ9_min_7cf53_1 : decode cJ9_min_7cf53 1 = .ok (.iload_n 1, 1) := by decide +kernel
theorem dJ9_min_7cf53_2 : decode cJ9_min_7cf53 2 = .ok (.if_icmp .gt 7, 3) := by decide +kernel
theorem dJ9_min_7cf53_5 : decode cJ9_min_7cf53 5 = .ok (.iload_n 0, 1) := by decide +kernel
theorem dJ9_min_7cf53_6 : decode cJ9_min_7cf53 6 = .ok (.goto 4, 3) := by decide +kernel
theorem dJ9_min_7cf53_9 : decode cJ9_min_7cf53 9 = .ok (.iload_n 1, 1) := by decide +kernel
theorem dJ9_min_7cf53_10 : decode cJ9_min_7cf53 10 = .ok (.ireturn, 1) := by decide +kernel
theorem dJ7_fill_53178_0 : decode cJ7_fill_53178 0 = .ok (.iconst 0, 1) := by decide +kernel
theorem dJ7_fill_53178_1 : decode cJ7_fill_53178 1 = .ok (.istore_n 2, 1) := by decide +kernel
theorem dJ7_fill_53178_2 : decode cJ7_fill_53178 2 = .ok (.aload_n 0, 1) := by decide +kernel
theorem dJ7_fill_53178_3 : decode cJ7_fill_53178 3 = .ok (.arraylength, 1) := by decide +kernel
theorem dJ7_fill_53178_4 : decode cJ7_fill_53178 4 = .ok (.istore_n 3, 1) := by decide +kernel
theorem dJ7_fill_53178_5 : decode cJ7_fill_53178 5 = .ok (.iload_n 2, 1) := by decide +kernel
theorem dJ7_fill_53178_6 : decode cJ7_fill_53178 6 = .ok (.iload_n 3, 1) := by decide +kernel
theorem dJ7_fill_53178_7 : decode cJ7_fill_53178 7 = .ok (.if_icmp .ge 13, 3) := by decide +kernel
theorem dJ7_fill_53178_10 : decode cJ7_fill_53178 10 = .ok (.aload_n 0, 1) := by decide +kernel
theorem dJ7_fill_53178_11 : decode cJ7_fill_53178 11 = .ok (.iload_n 2, 1) := by decide +kernel
theorem dJ7_fill_53178_12 : decode cJ7_fill_53178 12 = .ok (.iload_n 1, 1) := by decide +kernel
theorem dJ7_fill_53178_13 : decode cJ7_fill_53178 13 = .ok (.iastore, 1) := by decide +kernel
theorem dJ7_fill_53178_14 : decode cJ7_fill_53178 14 = .ok (.iinc 2 1, 3) := by decide +kernel
theorem dJ7_fill_53178_17 : decode cJ7_fill_53178 17 = .ok (.goto (-12), 3) := by decide +kernel
theorem dJ7_fill_53178_20 : decode cJ7_fill_53178 20 = .ok (.return_, 1) := by decide +kernel
