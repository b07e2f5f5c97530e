theorem dX7_first_34 : decode cX7_first 34 = .ok (.iload_n 2, 1) := by decide +kernel
theorem dX7_first_35 : decode cX7_first 35 = .ok (.ireturn, 1) := by decide +kernel
theorem dX7_first_36 : decode cX7_first 36 = .ok (.iinc 2 1, 3) := by decide +kernel
theorem dX7_first_39 : decode cX7_first 39 = .ok (.goto (-23), 3) := by decide +kernel
theorem dX7_first_42 : decode cX7_first 42 = .ok (.ldc 117, 2) := by decide +kernel
theorem dX7_first_44 : decode cX7_first 44 = .ok (.ireturn, 1) := by decide +kernel
set_option maxRecDepth 20000 in
theorem ggX7_planned_X7_within : GoodIn wsX7_planned wsX7_within := goodIn_r _ [9] (by decide +kernel) (by decide +kernel)
set_option maxRecDepth 20000 in
theorem gX7_planned_X7_within : GoodIn wsX7_planned (va_wsS RX7 92 yX7_within wsX7_within) := goodIn_app (goodIn_of _ (by decide +kernel)) ggX7_planned_X7_within
set_option maxRecDepth 20000 in
theorem ggX7_planned_X0_copyFrom : GoodIn wsX7_planned wsX0_copyFrom := goodIn_r _ [14, 15, 16, 17, 18, 19, 20, 21, 22, 23, 24, 25, 26, 27, 28, 29, 30, 31, 32, 33, 34, 35, 36, 37, 38, 39, 40, 123, 124, 125, 126, 127, 128, 129, 130, 131, 132, 133, 134, 135, 136] (by decide +kernel) (by decide +kernel)
set_option maxRecDepth 20000 in
theorem gX7_planned_X0_copyFrom : GoodIn wsX7_planned (wsV RX7 56 RX0 yX0_copyFrom wsX0_copyFrom) := goodIn_app (goodIn_of _ (by decide +kernel)) ggX7_planned_X0_copyFrom
set_option maxRecDepth 20000 in
theorem ggX7_planned_X3_makeOn : GoodIn wsX7_planned wsX3_makeOn := goodIn_r _ [45, 46, 47, 48, 49, 50, 35, 51, 52, 53, 54, 13, 55, 56, 57, 58, 59, 19, 15, 60, 61, 62, 30, 63, 64, 32, 65, 66, 67, 68, 20, 23, 21, 22, 69, 70, 71, 72, 73, 74, 44, 75, 76, 77, 78, 79, 80, 81, 82, 83, 84, 85, 86, 87, 88, 89, 90, 91, 92, 16, 93, 94, 95, 96, 18, 97, 98, 99, 100, 101, 102, 103, 104, 105, 24, 26, 25, 106, 107, 108, 109, 17, 110, 119, 120, 121, 122, 123, 124, 125, 126, 127, 128, 129, 130, 131, 132, 133, 134, 135, 136] (by decide +kernel) (by decide +kernel)
set_option maxRecDepth 20000 in
theorem gX7_planned_X3_makeOn : GoodIn wsX7_planned (wsV RX7 140 RX3 yX3_makeOn wsX3_makeOn) := goodIn_app (goodIn_of _ (by decide +kernel)) ggX7_planned_X3_makeOn
set_option maxRecDepth 20000 in
theorem ggX7_planned_X5_get : GoodIn wsX7_planned wsX5_get := goodIn_r _ [63, 64, 32, 135, 136] (by decide +kernel) (by decide +kernel)
set_option maxRecDepth 20000 in
theorem gX7_planned_X5_get : GoodIn wsX7_planned (wsV RX7 114 RX5 yX5_get wsX5_get) := goodIn_app (goodIn_of _ (by decide +kernel)) ggX7_planned_X5_get
theorem dX7_planned_0 : decode cX7_planned 0 = .ok (.iload_n 1, 1) := by decide +kernel
theorem dX7_planned_1 : decode cX7_planned 1 = .ok (.ifCond .lt 12, 3) := by decide +kernel
theorem dX7_planned_4 : decode cX7_planned 4 = .ok (.iload_n 2, 1) := by decide +kernel
theorem dX7_planned_5 : decode cX7_planned 5 = .ok (.iconst 0, 1) := by decide +kernel
theorem dX7_planned_6 : decode cX7_planned 6 = .ok (.iconst 1, 1) := by decide +kernel
theorem dX7_planned_7 : decode cX7_planned 7 = .ok (.invokestatic 92, 3) := by decide +kernel
theorem dX7_planned_10 : decode cX7_planned 10 = .ok (.ifCond .ne 6, 3) := by decide +kernel
theorem dX7_planned_13 : decode cX7_planned 13 = .ok (.ldc 96, 2) := by decide +kernel
theorem dX7_planned_15 : decode cX7_planned 15 = .ok (.ireturn, 1) := by decide +kernel
theorem dX7_planned_16 : decode cX7_planned 16 = .ok (.aload_n 0, 1) := by decide +kernel
theorem dX7_planned_17 : decode cX7_planned 17 = .ok (.getfield 16, 3) := by decide +kernel
theorem dX7_planned_20 : decode cX7_planned 20 = .ok (.aload_n 0, 1) := by decide +kernel
theorem dX7_planned_21 : decode cX7_planned 21 = .ok (.getfield 10, 3) := by decide +kernel
theorem dX7_planned_24 : decode cX7_planned 24 = .ok (.invokevirtual 56, 3) := by decide +kernel
theorem dX7_planned_27 : decode cX7_planned 27 = .ok (.aload_n 0, 1) := by decide +kernel
theorem dX7_planned_28 : decode cX7_planned 28 = .ok (.getfield 43, 3) := by decide +kernel
theorem dX7_planned_31 : decode cX7_planned 31 = .ok (.aload_n 0, 1) := by decide +kernel
theorem dX7_planned_32 : decode cX7_planned 32 = .ok (.getfield 16, 3) := by decide +kernel
theorem dX7_planned_35 : decode cX7_planned 35 = .ok (.invokevirtual 140, 3) := by decide +kernel
theorem dX7_planned_38 : decode cX7_planned 38 = .ok (.iload_n 1, 1) := by decide +kernel
theorem dX7_planned_39 : decode cX7_planned 39 = .ok (.aload_n 0, 1) := by decide +kernel
theorem dX7_planned_40 : decode cX7_planned 40 = .ok (.getfield 43, 3) := by decide +kernel
theorem dX7_planned_43 : decode cX7_planned 43 = .ok (.getfield 143, 3) := by decide +kernel
theorem dX7_planned_46 : decode cX7_planned 46 = .ok (.if_icmp .ge 18, 3) := by decide +kernel
theorem dX7_planned_49 : decode cX7_planned 49 = .ok (.aload_n 0, 1) := by decide +kernel
theorem dX7_planned_50 : decode cX7_planned 50 = .ok (.getfield 43, 3) := by decide +kernel
theorem dX7_planned_53 : decode cX7_planned 53 = .ok (.getfield 147, 3) := by decide +kernel
theorem dX7_planned_56 : decode cX7_planned 56 = .ok (.iload_n 1, 1) := by decide +kernel
theorem dX7_planned_57 : decode cX7_planned 57 = .ok (.iload_n 2, 1) := by decide +kernel
theorem dX7_planned_58 : decode cX7_planned 58 = .ok (.invokevirtual 114, 3) := by decide +kernel
theorem dX7_planned_61 : decode cX7_planned 61 = .ok (.goto 5, 3) := by decide +kernel
theorem dX7_planned_64 : decode cX7_planned 64 = .ok (.ldc 117, 2) := by decide +kernel
theorem dX7_planned_66 : decode cX7_planned 66 = .ok (.ireturn, 1) := by decide +kernel
set_option maxRecDepth 20000 in
theorem ggX7_plan_X7_within : GoodIn wsX7_plan wsX7_within := goodIn_r _ [9] (by decide +kernel) (by decide +kernel)
set_option maxRecDepth 20000 in
theorem gX7_plan_X7_within : GoodIn wsX7_plan (va_wsS RX7 92 yX7_within wsX7_within) := goodIn_app (goodIn_of _ (by decide +kernel)) ggX7_plan_X7_within
set_option maxRecDepth 20000 in
theorem ggX7_plan_X0_copyFrom : GoodIn wsX7_plan wsX0_copyFrom := goodIn_r _ [14, 15, 16, 17, 18, 19, 20, 21, 22, 23, 24, 25, 26, 27, 28, 29, 30, 31, 32, 33, 34, 35, 36, 37, 38, 39, 40, 124, 125, 126, 127, 128, 129, 130, 131, 132, 133, 134, 135, 136, 137] (by decide +kernel) (by decide +kernel)
set_option maxRecDepth 20000 in
theorem gX7_plan_X0_copyFrom : GoodIn wsX7_plan (wsV RX7 56 RX0 yX0_copyFrom wsX0_copyFrom) := goodIn_app (goodIn_of _ (by decide +kernel)) ggX7_plan_X0_copyFrom
set_option maxRecDepth 20000 in
theorem ggX7_plan_X3_makeOn : GoodIn wsX7_plan wsX3_makeOn := goodIn_r _ [45, 46, 47, 48, 49, 50, 35, 51, 52, 53, 54, 13, 55, 56, 57, 58, 59, 19, 15, 60, 61, 62, 30, 63, 64, 32, 65, 66, 67, 68, 20, 23, 21, 22, 69, 70, 71, 72, 73, 74, 44, 75, 76, 77, 78, 79, 80, 81, 82, 83, 84, 85, 86, 87, 88, 89, 90, 91, 92, 16, 93, 94, 95, 96, 18, 97, 98, 99, 100, 101, 102, 103, 104, 105, 24, 26, 25, 106, 107, 108, 109, 17, 110, 120, 121, 122, 123, 124, 125, 126, 127, 128, 129, 130, 131, 132, 133, 134, 135, 136, 137] (by decide +kernel) (by decide +kernel)
set_option maxRecDepth 20000 in
theorem gX7_plan_X3_makeOn : GoodIn wsX7_plan (wsV RX7 140 RX3 yX3_makeOn wsX3_makeOn) := goodIn_app (goodIn_of _ (by decide +kernel)) ggX7_plan_X3_makeOn
set_option maxRecDepth 20000 in
theorem ggX7_plan_X0_cardsLeft : GoodIn wsX7_plan wsX0_cardsLeft := goodIn_r _ [55, 56, 57, 58, 13, 59, 19, 15, 60, 61, 62, 30, 63, 64, 32, 124, 125, 126, 127, 128, 129, 130, 131, 132, 133, 134, 135, 136, 137] (by decide +kernel) (by decide +kernel)
set_option maxRecDepth 20000 in
theorem gX7_plan_X0_cardsLeft : GoodIn wsX7_plan (wsV RX7 148 RX0 yX0_cardsLeft wsX0_cardsLeft) := goodIn_app (goodIn_of _ (by decide +kernel)) ggX7_plan_X0_cardsLeft
set_option maxRecDepth 20000 in
theorem ggX7_plan_X5_get : GoodIn wsX7_plan wsX5_get := goodIn_r _ [63, 64, 32, 136, 137] (by decide +kernel) (by decide +kernel)
set_option maxRecDepth 20000 in
theorem gX7_plan_X5_get : GoodIn wsX7_plan (wsV RX7 114 RX5 yX5_get wsX5_get) := goodIn_app (goodIn_of _ (by decide +kernel)) ggX7_plan_X5_get
theorem dX7_plan_0 : decode cX7_plan 0 = .ok (.iload_n 1, 1) := by decide +kernel
theorem dX7_plan_1 : decode cX7_plan 1 = .ok (.iconst 0, 1) := by decide +kernel
theorem dX7_plan_2 : decode cX7_plan 2 = .ok (.iconst 5, 1) := by decide +kernel
theorem dX7_plan_3 : decode cX7_plan 3 = .ok (.invokestatic 92, 3) := by decide +kernel
theorem dX7_plan_6 : decode cX7_plan 6 = .ok (.ifCond .ne 6, 3) := by decide +kernel
theorem dX7_plan_9 : decode cX7_plan 9 = .ok (.ldc 96, 2) := by decide +kernel
theorem dX7_plan_11 : decode cX7_plan 11 = .ok (.ireturn, 1) := by decide +kernel
theorem dX7_plan_12 : decode cX7_plan 12 = .ok (.aload_n 0, 1) := by decide +kernel
theorem dX7_plan_13 : decode cX7_plan 13 = .ok (.getfield 16, 3) := by decide +kernel
theorem dX7_plan_16 : decode cX7_plan 16 = .ok (.aload_n 0, 1) := by decide +kernel
theorem dX7_plan_17 : decode cX7_plan 17 = .ok (.getfield 10, 3) := by decide +kernel
theorem dX7_plan_20 : decode cX7_plan 20 = .ok (.invokevirtual 56, 3) := by decide +kernel
theorem dX7_plan_23 : decode cX7_plan 23 = .ok (.aload_n 0, 1) := by decide +kernel
theorem dX7_plan_24 : decode cX7_plan 24 = .ok (.getfield 43, 3) := by decide +kernel
theorem dX7_plan_27 : decode cX7_plan 27 = .ok (.aload_n 0, 1) := by decide +kernel
theorem dX7_plan_28 : decode cX7_plan 28 = .ok (.getfield 16, 3) := by decide +kernel
theorem dX7_plan_31 : decode cX7_plan 31 = .ok (.invokevirtual 140, 3) := by decide +kernel
theorem dX7_plan_34 : decode cX7_plan 34 = .ok (.iload_n 1, 1) := by decide +kernel
theorem dX7_plan_35 : decode cX7_plan 35 = .ok (.tableswitch 109 0 4 #[33, 49, 57, 93, 101], 33) := by decide +kernel
theorem dX7_plan_68 : decode cX7_plan 68 = .ok (.aload_n 0, 1) := by decide +kernel
theorem dX7_plan_69 : decode cX7_plan 69 = .ok (.getfield 16, 3) := by decide +kernel
theorem dX7_plan_72 : decode cX7_plan 72 = .ok (.invokevirtual 148, 3) := by decide +kernel
theorem dX7_plan_75 : decode cX7_plan 75 = .ok (.ifCond .ne 7, 3) := by decide +kernel
theorem dX7_plan_78 : decode cX7_plan 78 = .ok (.iconst 1, 1) := by decide +kernel
theorem dX7_plan_79 : decode cX7_plan 79 = .ok (.goto 4, 3) := by decide +kernel
theorem dX7_plan_82 : decode cX7_plan 82 = .ok (.iconst 0, 1) := by decide +kernel
theorem dX7_plan_83 : decode cX7_plan 83 = .ok (.ireturn, 1) := by decide +kernel
theorem dX7_plan_84 : decode cX7_plan 84 = .ok (.aload_n 0, 1) := by decide +kernel
theorem dX7_plan_85 : decode cX7_plan 85 = .ok (.getfield 43, 3) := by decide +kernel
theorem dX7_plan_88 : decode cX7_plan 88 = .ok (.getfield 143, 3) := by decide +kernel
theorem dX7_plan_91 : decode cX7_plan 91 = .ok (.ireturn, 1) := by decide +kernel
theorem dX7_plan_92 : decode cX7_plan 92 = .ok (.aload_n 0, 1) := by decide +kernel
theorem dX7_plan_93 : decode cX7_plan 93 = .ok (.getfield 43, 3) := by decide +kernel
theorem dX7_plan_96 : decode cX7_plan 96 = .ok (.getfield 143, 3) := by decide +kernel
theorem dX7_plan_99 : decode cX7_plan 99 = .ok (.ifCond .ne 8, 3) := by decide +kernel
theorem dX7_plan_102 : decode cX7_plan 102 = .ok (.ldc 117, 2) := by decide +kernel
theorem dX7_plan_104 : decode cX7_plan 104 = .ok (.goto 23, 3) := by decide +kernel
theorem dX7_plan_107 : decode cX7_plan 107 = .ok (.aload_n 0, 1) := by decide +kernel
theorem dX7_plan_108 : decode cX7_plan 108 = .ok (.getfield 43, 3) := by decide +kernel
theorem dX7_plan_111 : decode cX7_plan 111 = .ok (.getfield 147, 3) := by decide +kernel
theorem dX7_plan_114 : decode cX7_plan 114 = .ok (.aload_n 0, 1) := by decide +kernel
theorem dX7_plan_115 : decode cX7_plan 115 = .ok (.getfield 43, 3) := by decide +kernel
theorem dX7_plan_118 : decode cX7_plan 118 = .ok (.getfield 143, 3) := by decide +kernel
theorem dX7_plan_121 : decode cX7_plan 121 = .ok (.iconst 1, 1) := by decide +kernel
theorem dX7_plan_122 : decode cX7_plan 122 = .ok (.isub, 1) := by decide +kernel
theorem dX7_plan_123 : decode cX7_plan 123 = .ok (.iconst 1, 1) := by decide +kernel
theorem dX7_plan_124 : decode cX7_plan 124 = .ok (.invokevirtual 114, 3) := by decide +kernel
theorem dX7_plan_127 : decode cX7_plan 127 = .ok (.ireturn, 1) := by decide +kernel
theorem dX7_plan_128 : decode cX7_plan 128 = .ok (.aload_n 0, 1) := by decide +kernel
theorem dX7_plan_129 : decode cX7_plan 129 = .ok (.getfield 43, 3) := by decide +kernel
theorem dX7_plan_132 : decode cX7_plan 132 = .ok (.getfield 151, 3) := by decide +kernel
theorem dX7_plan_135 : decode cX7_plan 135 = .ok (.ireturn, 1) := by decide +kernel
theorem dX7_plan_136 : decode cX7_plan 136 = .ok (.aload_n 0, 1) := by decide +kernel
theorem dX7_plan_137 : decode cX7_plan 137 = .ok (.getfield 43, 3) := by decide +kernel
theorem dX7_plan_140 : decode cX7_plan 140 = .ok (.getfield 154, 3) := by decide +kernel
theorem dX7_plan_143 : decode cX7_plan 143 = .ok (.ireturn, 1) := by decide +kernel
theorem dX7_plan_144 : decode cX7_plan 144 = .ok (.aload_n 0, 1) := by decide +kernel
theorem dX7_plan_145 : decode cX7_plan 145 = .ok (.getfield 16, 3) := by decide +kernel
theorem dX7_plan_148 : decode cX7_plan 148 = .ok (.invokevirtual 148, 3) := by decide +kernel
theorem dX7_plan_151 : decode cX7_plan 151 = .ok (.ireturn, 1) := by decide +kernel
set_option maxRecDepth 20000 in
theorem ggX7_worst_X7_within : GoodIn wsX7_worst wsX7_within := goodIn_r _ [7] (by decide +kernel) (by decide +kernel)
set_option maxRecDepth 20000 in
theorem gX7_worst_X7_within : GoodIn wsX7_worst (va_wsS RX7 92 yX7_within wsX7_within) := goodIn_app (goodIn_of _ (by decide +kernel)) ggX7_worst_X7_within
set_option maxRecDepth 20000 in
theorem ggX7_worst_X7_countReasons : GoodIn wsX7_worst wsX7_countReasons := goodIn_r _ [11, 2, 12, 13, 14, 15, 16, 17, 18, 19, 20, 21, 22, 23, 24, 25, 26, 27, 28, 29, 30, 31, 32, 33, 34, 35, 36, 37, 38, 39, 40, 41, 42, 43, 44, 45, 46, 47, 48, 49, 50, 51, 52, 53, 54, 55, 56, 57, 58, 59, 60, 61, 62, 63, 64, 65, 66, 67, 68, 69, 70, 71, 72, 73, 74, 75, 76, 77, 78, 79, 80, 81, 82, 83, 84, 85] (by decide +kernel) (by decide +kernel)
set_option maxRecDepth 20000 in
theorem gX7_worst_X7_countReasons : GoodIn wsX7_worst (wsV RX7 157 RX7 yX7_countReasons wsX7_countReasons) := goodIn_app (goodIn_of _ (by decide +kernel)) ggX7_worst_X7_countReasons
set_option maxRecDepth 20000 in
theorem ggX7_worst_X5_get : GoodIn wsX7_worst wsX5_get := goodIn_r _ [33, 34, 18, 84, 85] (by decide +kernel) (by decide +kernel)
set_option maxRecDepth 20000 in
theorem gX7_worst_X5_get : GoodIn wsX7_worst (wsV RX7 114 RX5 yX5_get wsX5_get) := goodIn_app (goodIn_of _ (by decide +kernel)) ggX7_worst_X5_get
theorem dX7_worst_0 : decode cX7_worst 0 = .ok (.iload_n 1, 1) := by decide +kernel
theorem dX7_worst_1 : decode cX7_worst 1 = .ok (.iconst 0, 1) := by decide +kernel
theorem dX7_worst_2 : decode cX7_worst 2 = .ok (.iconst 1, 1) := by decide +kernel
theorem dX7_worst_3 : decode cX7_worst 3 = .ok (.invokestatic 92, 3) := by decide +kernel
theorem dX7_worst_6 : decode cX7_worst 6 = .ok (.ifCond .ne 6, 3) := by decide +kernel
theorem dX7_worst_9 : decode cX7_worst 9 = .ok (.ldc 96, 2) := by decide +kernel
theorem dX7_worst_11 : decode cX7_worst 11 = .ok (.ireturn, 1) := by decide +kernel
theorem dX7_worst_12 : decode cX7_worst 12 = .ok (.aload_n 0, 1) := by decide +kernel
theorem dX7_worst_13 : decode cX7_worst 13 = .ok (.invokevirtual 157, 3) := by decide +kernel
theorem dX7_worst_16 : decode cX7_worst 16 = .ok (.iconst 3, 1) := by decide +kernel
theorem dX7_worst_17 : decode cX7_worst 17 = .ok (.istore_n 2, 1) := by decide +kernel
theorem dX7_worst_18 : decode cX7_worst 18 = .ok (.iconst 3, 1) := by decide +kernel
theorem dX7_worst_19 : decode cX7_worst 19 = .ok (.istore_n 3, 1) := by decide +kernel
theorem dX7_worst_20 : decode cX7_worst 20 = .ok (.iload_n 3, 1) := by decide +kernel
theorem dX7_worst_21 : decode cX7_worst 21 = .ok (.bipush 8, 2) := by decide +kernel
theorem dX7_worst_23 : decode cX7_worst 23 = .ok (.if_icmp .gt 32, 3) := by decide +kernel
theorem dX7_worst_26 : decode cX7_worst 26 = .ok (.aload_n 0, 1) := by decide +kernel
theorem dX7_worst_27 : decode cX7_worst 27 = .ok (.getfield 52, 3) := by decide +kernel
theorem dX7_worst_30 : decode cX7_worst 30 = .ok (.iconst 0, 1) := by decide +kernel
theorem dX7_worst_31 : decode cX7_worst 31 = .ok (.iload_n 3, 1) := by decide +kernel
theorem dX7_worst_32 : decode cX7_worst 32 = .ok (.invokevirtual 114, 3) := by decide +kernel
theorem dX7_worst_35 : decode cX7_worst 35 = .ok (.aload_n 0, 1) := by decide +kernel
theorem dX7_worst_36 : decode cX7_worst 36 = .ok (.getfield 52, 3) := by decide +kernel
theorem dX7_worst_39 : decode cX7_worst 39 = .ok (.iconst 0, 1) := by decide +kernel
theorem dX7_worst_40 : decode cX7_worst 40 = .ok (.iload_n 2, 1) := by decide +kernel
theorem dX7_worst_41 : decode cX7_worst 41 = .ok (.invokevirtual 114, 3) := by decide +kernel
theorem dX7_worst_44 : decode cX7_worst 44 = .ok (.if_icmp .le 5, 3) := by decide +kernel
theorem dX7_worst_47 : decode cX7_worst 47 = .ok (.iload_n 3, 1) := by decide +kernel
theorem dX7_worst_48 : decode cX7_worst 48 = .ok (.istore_n 2, 1) := by decide +kernel
theorem dX7_worst_49 : decode cX7_worst 49 = .ok (.iinc 3 1, 3) := by decide +kernel
theorem dX7_worst_52 : decode cX7_worst 52 = .ok (.goto (-32), 3) := by decide +kernel
theorem dX7_worst_55 : decode cX7_worst 55 = .ok (.aload_n 0, 1) := by decide +kernel
theorem dX7_worst_56 : decode cX7_worst 56 = .ok (.getfield 52, 3) := by decide +kernel
theorem dX7_worst_59 : decode cX7_worst 59 = .ok (.iconst 0, 1) := by decide +kernel
theorem dX7_worst_60 : decode cX7_worst 60 = .ok (.iload_n 2, 1) := by decide +kernel
theorem dX7_worst_61 : decode cX7_worst 61 = .ok (.invokevirtual 114, 3) := by decide +kernel
theorem dX7_worst_64 : decode cX7_worst 64 = .ok (.istore_n 3, 1) := by decide +kernel
theorem dX7_worst_65 : decode cX7_worst 65 = .ok (.iload_n 3, 1) := by decide +kernel
theorem dX7_worst_66 : decode cX7_worst 66 = .ok (.ifCond .ne 6, 3) := by decide +kernel
theorem dX7_worst_69 : decode cX7_worst 69 = .ok (.ldc 117, 2) := by decide +kernel
theorem dX7_worst_71 : decode cX7_worst 71 = .ok (.ireturn, 1) := by decide +kernel
theorem dX7_worst_72 : decode cX7_worst 72 = .ok (.iload_n 1, 1) := by decide +kernel
theorem dX7_worst_73 : decode cX7_worst 73 = .ok (.ifCond .ne 7, 3) := by decide +kernel
theorem dX7_worst_76 : decode cX7_worst 76 = .ok (.iload_n 2, 1) := by decide +kernel
theorem dX7_worst_77 : decode cX7_worst 77 = .ok (.goto 4, 3) := by decide +kernel
theorem dX7_worst_80 : decode cX7_worst 80 = .ok (.iload_n 3, 1) := by decide +kernel
theorem dX7_worst_81 : decode cX7_worst 81 = .ok (.ireturn, 1) := by decide +kernel
set_option maxRecDepth 20000 in
theorem ggX7_count_X5_get : GoodIn wsX7_count wsX5_get := goodIn_r _ [9, 10, 11, 35, 36] (by decide +kernel) (by decide +kernel)
set_option maxRecDepth 20000 in
theorem gX7_count_X5_get : GoodIn wsX7_count (wsV RX7 114 RX5 yX5_get wsX5_get) := goodIn_app (goodIn_of _ (by decide +kernel)) ggX7_count_X5_get
theorem dX7_count_0 : decode cX7_count 0 = .ok (.iload_n 1, 1) := by decide +kernel
theorem dX7_count_1 : decode cX7_count 1 = .ok (.tableswitch 203 0 22 #[107, 115, 123, 131, 139, 147, 155, 163, 171, 179, 203, 203, 203, 203, 203, 203, 203, 203, 203, 203, 187, 187, 187], 107) := by decide +kernel
theorem dX7_count_108 : decode cX7_count 108 = .ok (.aload_n 0, 1) := by decide +kernel
theorem dX7_count_109 : decode cX7_count 109 = .ok (.getfield 10, 3) := by decide +kernel
theorem dX7_count_112 : decode cX7_count 112 = .ok (.getfield 160, 3) := by decide +kernel
theorem dX7_count_115 : decode cX7_count 115 = .ok (.ireturn, 1) := by decide +kernel
theorem dX7_count_116 : decode cX7_count 116 = .ok (.aload_n 0, 1) := by decide +kernel
theorem dX7_count_117 : decode cX7_count 117 = .ok (.getfield 10, 3) := by decide +kernel
theorem dX7_count_120 : decode cX7_count 120 = .ok (.getfield 163, 3) := by decide +kernel
theorem dX7_count_123 : decode cX7_count 123 = .ok (.ireturn, 1) := by decide +kernel
theorem dX7_count_124 : decode cX7_count 124 = .ok (.aload_n 0, 1) := by decide +kernel
theorem dX7_count_125 : decode cX7_count 125 = .ok (.getfield 10, 3) := by decide +kernel
theorem dX7_count_128 : decode cX7_count 128 = .ok (.getfield 166, 3) := by decide +kernel
theorem dX7_count_131 : decode cX7_count 131 = .ok (.ireturn, 1) := by decide +kernel
theorem dX7_count_132 : decode cX7_count 132 = .ok (.aload_n 0, 1) := by decide +kernel
theorem dX7_count_133 : decode cX7_count 133 = .ok (.getfield 10, 3) := by decide +kernel
theorem dX7_count_136 : decode cX7_count 136 = .ok (.getfield 169, 3) := by decide +kernel
theorem dX7_count_139 : decode cX7_count 139 = .ok (.ireturn, 1) := by decide +kernel
theorem dX7_count_140 : decode cX7_count 140 = .ok (.aload_n 0, 1) := by decide +kernel
theorem dX7_count_141 : decode cX7_count 141 = .ok (.getfield 10, 3) := by decide +kernel
theorem dX7_count_144 : decode cX7_count 144 = .ok (.getfield 172, 3) := by decide +kernel
theorem dX7_count_147 : decode cX7_count 147 = .ok (.ireturn, 1) := by decide +kernel
theorem dX7_count_148 : decode cX7_count 148 = .ok (.aload_n 0, 1) := by decide +kernel
theorem dX7_count_149 : decode cX7_count 149 = .ok (.getfield 10, 3) := by decide +kernel
theorem dX7_count_152 : decode cX7_count 152 = .ok (.getfield 175, 3) := by decide +kernel
theorem dX7_count_155 : decode cX7_count 155 = .ok (.ireturn, 1) := by decide +kernel
theorem dX7_count_156 : decode cX7_count 156 = .ok (.aload_n 0, 1) := by decide +kernel
theorem dX7_count_157 : decode cX7_count 157 = .ok (.getfield 10, 3) := by decide +kernel
theorem dX7_count_160 : decode cX7_count 160 = .ok (.getfield 178, 3) := by decide +kernel
theorem dX7_count_163 : decode cX7_count 163 = .ok (.ireturn, 1) := by decide +kernel
theorem dX7_count_164 : decode cX7_count 164 = .ok (.aload_n 0, 1) := by decide +kernel
theorem dX7_count_165 : decode cX7_count 165 = .ok (.getfield 10, 3) := by decide +kernel
theorem dX7_count_168 : decode cX7_count 168 = .ok (.getfield 181, 3) := by decide +kernel
theorem dX7_count_171 : decode cX7_count 171 = .ok (.ireturn, 1) := by decide +kernel
theorem dX7_count_172 : decode cX7_count 172 = .ok (.aload_n 0, 1) := by decide +kernel
theorem dX7_count_173 : decode cX7_count 173 = .ok (.getfield 22, 3) := by decide +kernel
theorem dX7_count_176 : decode cX7_count 176 = .ok (.getfield 184, 3) := by decide +kernel
theorem dX7_count_179 : decode cX7_count 179 = .ok (.ireturn, 1) := by decide +kernel
theorem dX7_count_180 : decode cX7_count 180 = .ok (.aload_n 0, 1) := by decide +kernel
theorem dX7_count_181 : decode cX7_count 181 = .ok (.getfield 29, 3) := by decide +kernel
theorem dX7_count_184 : decode cX7_count 184 = .ok (.getfield 185, 3) := by decide +kernel
theorem dX7_count_187 : decode cX7_count 187 = .ok (.ireturn, 1) := by decide +kernel
theorem dX7_count_188 : decode cX7_count 188 = .ok (.aload_n 0, 1) := by decide +kernel
theorem dX7_count_189 : decode cX7_count 189 = .ok (.getfield 10, 3) := by decide +kernel
theorem dX7_count_192 : decode cX7_count 192 = .ok (.getfield 186, 3) := by decide +kernel
theorem dX7_count_195 : decode cX7_count 195 = .ok (.iconst 0, 1) := by decide +kernel
theorem dX7_count_196 : decode cX7_count 196 = .ok (.iload_n 1, 1) := by decide +kernel
theorem dX7_count_197 : decode cX7_count 197 = .ok (.bipush 20, 2) := by decide +kernel
theorem dX7_count_199 : decode cX7_count 199 = .ok (.isub, 1) := by decide +kernel
theorem dX7_count_200 : decode cX7_count 200 = .ok (.invokevirtual 114, 3) := by decide +kernel
theorem dX7_count_203 : decode cX7_count 203 = .ok (.ireturn, 1) := by decide +kernel
theorem dX7_count_204 : decode cX7_count 204 = .ok (.ldc 96, 2) := by decide +kernel
theorem dX7_count_206 : decode cX7_count 206 = .ok (.ireturn, 1) := by decide +kernel
set_option maxRecDepth 20000 in
theorem ggX7_undo_X1_restoreTo : GoodIn wsX7_undo wsX1_restoreTo := goodIn_r _ [8, 9, 10, 11, 12, 13, 14, 15, 16, 17, 18, 19, 20, 21, 22, 23, 24, 25, 26, 27, 28, 29, 30, 31, 32, 33, 34, 35, 36, 37, 38, 39, 40, 41, 49, 50, 51, 52, 53, 54, 55, 56, 57, 58, 59, 60, 61, 62, 63, 64] (by decide +kernel) (by decide +kernel)
set_option maxRecDepth 20000 in
theorem gX7_undo_X1_restoreTo : GoodIn wsX7_undo (wsV RX7 190 RX1 yX1_restoreTo wsX1_restoreTo) := goodIn_app (goodIn_of _ (by decide +kernel)) ggX7_undo_X1_restoreTo
theorem dX7_undo_0 : decode cX7_undo 0 = .ok (.aload_n 0, 1) := by decide +kernel
theorem dX7_undo_1 : decode cX7_undo 1 = .ok (.getfield 22, 3) := by decide +kernel
theorem dX7_undo_4 : decode cX7_undo 4 = .ok (.getfield 184, 3) := by decide +kernel
theorem dX7_undo_7 : decode cX7_undo 7 = .ok (.ifCond .ne 6, 3) := by decide +kernel
theorem dX7_undo_10 : decode cX7_undo 10 = .ok (.ldc 189, 2) := by decide +kernel
theorem dX7_undo_12 : decode cX7_undo 12 = .ok (.ireturn, 1) := by decide +kernel
theorem dX7_undo_13 : decode cX7_undo 13 = .ok (.aload_n 0, 1) := by decide +kernel
theorem dX7_undo_14 : decode cX7_undo 14 = .ok (.getfield 22, 3) := by decide +kernel
theorem dX7_undo_17 : decode cX7_undo 17 = .ok (.aload_n 0, 1) := by decide +kernel
theorem dX7_undo_18 : decode cX7_undo 18 = .ok (.getfield 10, 3) := by decide +kernel
theorem dX7_undo_21 : decode cX7_undo 21 = .ok (.invokevirtual 190, 3) := by decide +kernel
theorem dX7_undo_24 : decode cX7_undo 24 = .ok (.aload_n 0, 1) := by decide +kernel
theorem dX7_undo_25 : decode cX7_undo 25 = .ok (.getfield 22, 3) := by decide +kernel
theorem dX7_undo_28 : decode cX7_undo 28 = .ok (.getfield 184, 3) := by decide +kernel
theorem dX7_undo_31 : decode cX7_undo 31 = .ok (.ireturn, 1) := by decide +kernel
set_option maxRecDepth 20000 in
theorem ggX7_type_X7_within : GoodIn wsX7_type wsX7_within := goodIn_r _ [7] (by decide +kernel) (by decide +kernel)
set_option maxRecDepth 20000 in
theorem gX7_type_X7_within : GoodIn wsX7_type (va_wsS RX7 92 yX7_within wsX7_within) := goodIn_app (goodIn_of _ (by decide +kernel)) ggX7_type_X7_within
set_option maxRecDepth 20000 in
theorem ggX7_type_X6_append : GoodIn wsX7_type wsX6_append := goodIn_r _ [12, 13, 14, 22, 23] (by decide +kernel) (by decide +kernel)
set_option maxRecDepth 20000 in
theorem gX7_type_X6_append : GoodIn wsX7_type (wsV RX7 194 RX6 yX6_append wsX6_append) := goodIn_app (goodIn_of _ (by decide +kernel)) ggX7_type_X6_append
theorem dX7_type_0 : decode cX7_type 0 = .ok (.iload_n 1, 1) := by decide +kernel
theorem dX7_type_1 : decode cX7_type 1 = .ok (.bipush 32, 2) := by decide +kernel
theorem dX7_type_3 : decode cX7_type 3 = .ok (.bipush 126, 2) := by decide +kernel
theorem dX7_type_5 : decode cX7_type 5 = .ok (.invokestatic 92, 3) := by decide +kernel
theorem dX7_type_8 : decode cX7_type 8 = .ok (.ifCond .ne 6, 3) := by decide +kernel
theorem dX7_type_11 : decode cX7_type 11 = .ok (.ldc 96, 2) := by decide +kernel
theorem dX7_type_13 : decode cX7_type 13 = .ok (.ireturn, 1) := by decide +kernel
theorem dX7_type_14 : decode cX7_type 14 = .ok (.aload_n 0, 1) := by decide +kernel
theorem dX7_type_15 : decode cX7_type 15 = .ok (.getfield 29, 3) := by decide +kernel
theorem dX7_type_18 : decode cX7_type 18 = .ok (.getfield 185, 3) := by decide +kernel
theorem dX7_type_21 : decode cX7_type 21 = .ok (.bipush 60, 2) := by decide +kernel
theorem dX7_type_23 : decode cX7_type 23 = .ok (.if_icmp .lt 6, 3) := by decide +kernel
theorem dX7_type_26 : decode cX7_type 26 = .ok (.ldc 193, 2) := by decide +kernel
theorem dX7_type_28 : decode cX7_type 28 = .ok (.ireturn, 1) := by decide +kernel
theorem dX7_type_29 : decode cX7_type 29 = .ok (.aload_n 0, 1) := by decide +kernel
theorem dX7_type_30 : decode cX7_type 30 = .ok (.getfield 29, 3) := by decide +kernel
theorem dX7_type_33 : decode cX7_type 33 = .ok (.iload_n 1, 1) := by decide +kernel
theorem dX7_type_34 : decode cX7_type 34 = .ok (.invokevirtual 194, 3) := by decide +kernel
theorem dX7_type_37 : decode cX7_type 37 = .ok (.aload_n 0, 1) := by decide +kernel
theorem dX7_type_38 : decode cX7_type 38 = .ok (.getfield 29, 3) := by decide +kernel
theorem dX7_type_41 : decode cX7_type 41 = .ok (.getfield 185, 3) := by decide +kernel
theorem dX7_type_44 : decode cX7_type 44 = .ok (.ireturn, 1) := by decide +kernel
theorem dX7_clearText_0 : decode cX7_clearText 0 = .ok (.aload_n 0, 1) := by decide +kernel
theorem dX7_clearText_1 : decode cX7_clearText 1 = .ok (.getfield 29, 3) := by decide +kernel
theorem dX7_clearText_4 : decode cX7_clearText 4 = .ok (.getfield 185, 3) := by decide +kernel
theorem dX7_clearText_7 : decode cX7_clearText 7 = .ok (.istore_n 1, 1) := by decide +kernel
theorem dX7_clearText_8 : decode cX7_clearText 8 = .ok (.aload_n 0, 1) := by decide +kernel
theorem dX7_clearText_9 : decode cX7_clearText 9 = .ok (.getfield 29, 3) := by decide +kernel
theorem dX7_clearText_12 : decode cX7_clearText 12 = .ok (.iconst 0, 1) := by decide +kernel
theorem dX7_clearText_13 : decode cX7_clearText 13 = .ok (.putfield 185, 3) := by decide +kernel
theorem dX7_clearText_16 : decode cX7_clearText 16 = .ok (.iload_n 1, 1) := by decide +kernel
theorem dX7_clearText_17 : decode cX7_clearText 17 = .ok (.ireturn, 1) := by decide +kernel
set_option maxRecDepth 20000 in
theorem ggX7_fault_X7_within : GoodIn wsX7_fault wsX7_within := goodIn_r _ [10] (by decide +kernel) (by decide +kernel)
set_option maxRecDepth 20000 in
theorem gX7_fault_X7_within : GoodIn wsX7_fault (va_wsS RX7 92 yX7_within wsX7_within) := goodIn_app (goodIn_of _ (by decide +kernel)) ggX7_fault_X7_within
set_option maxRecDepth 20000 in
theorem ggX7_fault_X0_copyFrom : GoodIn wsX7_fault wsX0_copyFrom := goodIn_r _ [15, 16, 17, 18, 19, 20, 21, 22, 23, 24, 25, 26, 27, 28, 29, 30, 31, 32, 33, 34, 35, 36, 37, 38, 39, 40, 41, 180, 181, 182, 183, 184, 185, 186, 187, 188, 189, 190, 191, 192, 193] (by decide +kernel) (by decide +kernel)
set_option maxRecDepth 20000 in
theorem gX7_fault_X0_copyFrom : GoodIn wsX7_fault (wsV RX7 56 RX0 yX0_copyFrom wsX0_copyFrom) := goodIn_app (goodIn_of _ (by decide +kernel)) ggX7_fault_X0_copyFrom
set_option maxRecDepth 20000 in
theorem ggX7_fault_X4_playOn : GoodIn wsX7_fault wsX4_playOn := goodIn_r _ [46, 47, 48, 49, 50, 51, 52, 53, 54, 55, 56, 57, 58, 59, 60, 61, 62, 63, 64, 65, 66, 67, 68, 69, 70, 71, 72, 73, 74, 75, 76, 77, 78, 79, 31, 80, 81, 33, 82, 83, 84, 85, 86, 87, 88, 89, 90, 91, 92, 93, 94, 95, 96, 14, 97, 98, 20, 99, 16, 100, 101, 102, 8, 9, 10, 103, 104, 105, 106, 107, 108, 109, 110, 111, 112, 113, 114, 115, 17, 116, 117, 118, 119, 120, 121, 122, 123, 124, 125, 126, 127, 128, 129, 130, 131, 132, 133, 134, 135, 136, 22, 137, 138, 139, 140, 21, 141, 142, 143, 144, 145, 146, 147, 148, 23, 24, 19, 149, 150, 151, 152, 153, 154, 155, 25, 27, 26, 156, 157, 158, 159, 18, 160, 161, 162, 163, 164, 165, 166, 167, 175, 176, 177, 178, 179, 194, 195, 196, 197, 198, 192, 193, 180, 181, 182, 183, 184, 185, 186, 187, 188, 189, 190, 191] (by decide +kernel) (by decide +kernel)
set_option maxRecDepth 20000 in
theorem gX7_fault_X4_playOn : GoodIn wsX7_fault (wsV RX7 198 RX4 yX4_playOn wsX4_playOn) := goodIn_app (goodIn_of _ (by decide +kernel)) ggX7_fault_X4_playOn
theorem dX7_fault_0 : decode cX7_fault 0 = .ok (.iload_n 1, 1) := by decide +kernel
theorem dX7_fault_1 : decode cX7_fault 1 = .ok (.iconst 0, 1) := by decide +kernel
theorem dX7_fault_2 : decode cX7_fault 2 = .ok (.iconst 2, 1) := by decide +kernel
theorem dX7_fault_3 : decode cX7_fault 3 = .ok (.invokestatic 92, 3) := by decide +kernel
theorem dX7_fault_6 : decode cX7_fault 6 = .ok (.ifCond .ne 6, 3) := by decide +kernel
theorem dX7_fault_9 : decode cX7_fault 9 = .ok (.ldc 96, 2) := by decide +kernel
theorem dX7_fault_11 : decode cX7_fault 11 = .ok (.ireturn, 1) := by decide +kernel
theorem dX7_fault_12 : decode cX7_fault 12 = .ok (.aload_n 0, 1) := by decide +kernel
theorem dX7_fault_13 : decode cX7_fault 13 = .ok (.getfield 16, 3) := by decide +kernel
theorem dX7_fault_16 : decode cX7_fault 16 = .ok (.aload_n 0, 1) := by decide +kernel
theorem dX7_fault_17 : decode cX7_fault 17 = .ok (.getfield 10, 3) := by decide +kernel
theorem dX7_fault_20 : decode cX7_fault 20 = .ok (.invokevirtual 56, 3) := by decide +kernel
theorem dX7_fault_23 : decode cX7_fault 23 = .ok (.aload_n 0, 1) := by decide +kernel
theorem dX7_fault_24 : decode cX7_fault 24 = .ok (.getfield 36, 3) := by decide +kernel
theorem dX7_fault_27 : decode cX7_fault 27 = .ok (.aload_n 0, 1) := by decide +kernel
theorem dX7_fault_28 : decode cX7_fault 28 = .ok (.getfield 29, 3) := by decide +kernel
theorem dX7_fault_31 : decode cX7_fault 31 = .ok (.aload_n 0, 1) := by decide +kernel
theorem dX7_fault_32 : decode cX7_fault 32 = .ok (.getfield 16, 3) := by decide +kernel
theorem dX7_fault_35 : decode cX7_fault 35 = .ok (.invokevirtual 198, 3) := by decide +kernel
theorem dX7_fault_38 : decode cX7_fault 38 = .ok (.aload_n 0, 1) := by decide +kernel
theorem dX7_fault_39 : decode cX7_fault 39 = .ok (.getfield 36, 3) := by decide +kernel
theorem dX7_fault_42 : decode cX7_fault 42 = .ok (.getfield 202, 3) := by decide +kernel
theorem dX7_fault_45 : decode cX7_fault 45 = .ok (.ifCond .ne 6, 3) := by decide +kernel
theorem dX7_fault_48 : decode cX7_fault 48 = .ok (.ldc 117, 2) := by decide +kernel
theorem dX7_fault_50 : decode cX7_fault 50 = .ok (.ireturn, 1) := by decide +kernel
theorem dX7_fault_51 : decode cX7_fault 51 = .ok (.iload_n 1, 1) := by decide +kernel
theorem dX7_fault_52 : decode cX7_fault 52 = .ok (.lookupswitch 44 #[(0, 28), (1, 36)], 28) := by decide +kernel
theorem dX7_fault_80 : decode cX7_fault 80 = .ok (.aload_n 0, 1) := by decide +kernel
theorem dX7_fault_81 : decode cX7_fault 81 = .ok (.getfield 36, 3) := by decide +kernel
theorem dX7_fault_84 : decode cX7_fault 84 = .ok (.getfield 205, 3) := by decide +kernel
theorem dX7_fault_87 : decode cX7_fault 87 = .ok (.ireturn, 1) := by decide +kernel
theorem dX7_fault_88 : decode cX7_fault 88 = .ok (.aload_n 0, 1) := by decide +kernel
theorem dX7_fault_89 : decode cX7_fault 89 = .ok (.getfield 36, 3) := by decide +kernel
theorem dX7_fault_92 : decode cX7_fault 92 = .ok (.getfield 202, 3) := by decide +kernel
theorem dX7_fault_95 : decode cX7_fault 95 = .ok (.ireturn, 1) := by decide +kernel
theorem dX7_fault_96 : decode cX7_fault 96 = .ok (.aload_n 0, 1) := by decide +kernel
theorem dX7_fault_97 : decode cX7_fault 97 = .ok (.getfield 36, 3) := by decide +kernel
theorem dX7_fault_100 : decode cX7_fault 100 = .ok (.getfield 208, 3) := by decide +kernel
theorem dX7_fault_103 : decode cX7_fault 103 = .ok (.ireturn, 1) := by decide +kernel
set_option maxRecDepth 20000 in
theorem ggX7_play_X0_copyFrom : GoodIn wsX7_play wsX0_copyFrom := goodIn_r _ [10, 11, 12, 13, 14, 15, 16, 17, 18, 19, 20, 21, 22, 23, 24, 25, 26, 27, 28, 29, 30, 31, 32, 33, 34, 35, 36, 195, 196, 197, 198, 199, 200, 201, 202, 203, 204, 205, 206, 207, 208] (by decide +kernel) (by decide +kernel)
set_option maxRecDepth 20000 in
theorem gX7_play_X0_copyFrom : GoodIn wsX7_play (wsV RX7 56 RX0 yX0_copyFrom wsX0_copyFrom) := goodIn_app (goodIn_of _ (by decide +kernel)) ggX7_play_X0_copyFrom
set_option maxRecDepth 20000 in
theorem ggX7_play_X4_playOn : GoodIn wsX7_play wsX4_playOn := goodIn_r _ [41, 42, 43, 44, 45, 46, 47, 48, 49, 50, 51, 52, 53, 54, 55, 56, 57, 58, 59, 60, 61, 62, 63, 64, 65, 66, 67, 68, 69, 70, 71, 72, 73, 74, 26, 75, 76, 28, 77, 78, 79, 80, 81, 82, 83, 84, 85, 86, 87, 88, 89, 90, 91, 9, 92, 93, 15, 94, 11, 95, 96, 97, 98, 99, 100, 101, 102, 103, 104, 105, 106, 107, 108, 109, 110, 111, 112, 113, 12, 114, 115, 116, 117, 118, 119, 120, 121, 122, 123, 124, 125, 126, 127, 128, 129, 130, 131, 132, 133, 134, 17, 135, 136, 137, 138, 16, 139, 140, 141, 142, 143, 144, 145, 146, 18, 19, 14, 147, 148, 149, 150, 151, 152, 153, 20, 22, 21, 154, 155, 156, 157, 13, 158, 159, 160, 161, 162, 163, 164, 165, 190, 191, 192, 193, 194, 209, 210, 211, 212, 213, 207, 208, 195, 196, 197, 198, 199, 200, 201, 202, 203, 204, 205, 206] (by decide +kernel) (by decide +kernel)
set_option maxRecDepth 20000 in
theorem gX7_play_X4_playOn : GoodIn wsX7_play (wsV RX7 198 RX4 yX4_playOn wsX4_playOn) := goodIn_app (goodIn_of _ (by decide +kernel)) ggX7_play_X4_playOn
set_option maxRecDepth 20000 in
theorem ggX7_play_X7_settle : GoodIn wsX7_play wsX7_settle := goodIn_r _ [169, 170, 2, 1, 171, 172, 173, 174, 175, 176, 177, 178, 179, 180, 181, 182, 7, 8, 9, 10, 11, 12, 13, 14, 15, 16, 17, 18, 19, 20, 21, 22, 23, 24, 25, 26, 27, 28, 29, 30, 31, 32, 33, 34, 35, 36, 6, 183, 184, 185, 186, 187, 188, 189, 214, 215, 195, 196, 197, 198, 199, 200, 201, 202, 203, 204, 205, 206, 207, 208] (by decide +kernel) (by decide +kernel)
set_option maxRecDepth 20000 in
theorem gX7_play_X7_settle : GoodIn wsX7_play (wsV RX7 64 RX7 yX7_settle wsX7_settle) := goodIn_app (goodIn_of _ (by decide +kernel)) ggX7_play_X7_settle
theorem dX7_play_0 : decode cX7_play 0 = .ok (.aload_n 0, 1) := by decide +kernel
theorem dX7_play_1 : decode cX7_play 1 = .ok (.getfield 16, 3) := by decide +kernel
theorem dX7_play_4 : decode cX7_play 4 = .ok (.aload_n 0, 1) := by decide +kernel
theorem dX7_play_5 : decode cX7_play 5 = .ok (.getfield 10, 3) := by decide +kernel
theorem dX7_play_8 : decode cX7_play 8 = .ok (.invokevirtual 56, 3) := by decide +kernel
theorem dX7_play_11 : decode cX7_play 11 = .ok (.aload_n 0, 1) := by decide +kernel
theorem dX7_play_12 : decode cX7_play 12 = .ok (.getfield 36, 3) := by decide +kernel
theorem dX7_play_15 : decode cX7_play 15 = .ok (.aload_n 0, 1) := by decide +kernel
theorem dX7_play_16 : decode cX7_play 16 = .ok (.getfield 29, 3) := by decide +kernel
theorem dX7_play_19 : decode cX7_play 19 = .ok (.aload_n 0, 1) := by decide +kernel
theorem dX7_play_20 : decode cX7_play 20 = .ok (.getfield 16, 3) := by decide +kernel
theorem dX7_play_23 : decode cX7_play 23 = .ok (.invokevirtual 198, 3) := by decide +kernel
theorem dX7_play_26 : decode cX7_play 26 = .ok (.aload_n 0, 1) := by decide +kernel
theorem dX7_play_27 : decode cX7_play 27 = .ok (.aload_n 0, 1) := by decide +kernel
theorem dX7_play_28 : decode cX7_play 28 = .ok (.getfield 36, 3) := by decide +kernel
theorem dX7_play_31 : decode cX7_play 31 = .ok (.getfield 202, 3) := by decide +kernel
theorem dX7_play_34 : decode cX7_play 34 = .ok (.ifCond .ne 13, 3) := by decide +kernel
theorem dX7_play_37 : decode cX7_play 37 = .ok (.aload_n 0, 1) := by decide +kernel
theorem dX7_play_38 : decode cX7_play 38 = .ok (.getfield 36, 3) := by decide +kernel
theorem dX7_play_41 : decode cX7_play 41 = .ok (.getfield 211, 3) := by decide +kernel
theorem dX7_play_44 : decode cX7_play 44 = .ok (.goto 5, 3) := by decide +kernel
theorem dX7_play_47 : decode cX7_play 47 = .ok (.ldc 189, 2) := by decide +kernel
theorem dX7_play_49 : decode cX7_play 49 = .ok (.invokevirtual 64, 3) := by decide +kernel
theorem dX7_play_52 : decode cX7_play 52 = .ok (.ireturn, 1) := by decide +kernel
set_option maxRecDepth 20000 in
theorem ggX7_settle_X1_record : GoodIn wsX7_settle wsX1_record := goodIn_r _ [8, 9, 10, 11, 12, 13, 7, 14, 15, 16, 17, 18, 19, 20, 21, 22, 23, 24, 25, 26, 27, 28, 29, 30, 31, 32, 33, 34, 35, 36, 37, 38, 39, 40, 41, 42, 43, 44, 45, 54, 55, 56, 57, 58, 59, 60, 61, 62, 63, 64, 65, 66, 67, 68, 69] (by decide +kernel) (by decide +kernel)
set_option maxRecDepth 20000 in
theorem gX7_settle_X1_record : GoodIn wsX7_settle (wsV RX7 214 RX1 yX1_record wsX1_record) := goodIn_app (goodIn_of _ (by decide +kernel)) ggX7_settle_X1_record
set_option maxRecDepth 20000 in
theorem ggX7_settle_X0_copyFrom : GoodIn wsX7_settle wsX0_copyFrom := goodIn_r _ [19, 20, 21, 22, 23, 24, 25, 26, 27, 28, 29, 30, 31, 32, 33, 34, 35, 36, 37, 38, 39, 40, 41, 42, 43, 44, 45, 56, 57, 58, 59, 60, 61, 62, 63, 64, 65, 66, 67, 68, 69] (by decide +kernel) (by decide +kernel)
set_option maxRecDepth 20000 in
theorem gX7_settle_X0_copyFrom : GoodIn wsX7_settle (wsV RX7 56 RX0 yX0_copyFrom wsX0_copyFrom) := goodIn_app (goodIn_of _ (by decide +kernel)) ggX7_settle_X0_copyFrom
theorem dX7_settle_0 : decode cX7_settle 0 = .ok (.iload_n 1, 1) := by decide +kernel
theorem dX7_settle_1 : decode cX7_settle 1 = .ok (.ifCond .lt 25, 3) := by decide +kernel
theorem dX7_settle_4 : decode cX7_settle 4 = .ok (.aload_n 0, 1) := by decide +kernel
theorem dX7_settle_5 : decode cX7_settle 5 = .ok (.getfield 22, 3) := by decide +kernel
theorem dX7_settle_8 : decode cX7_settle 8 = .ok (.aload_n 0, 1) := by decide +kernel
theorem dX7_settle_9 : decode cX7_settle 9 = .ok (.getfield 10, 3) := by decide +kernel
theorem dX7_settle_12 : decode cX7_settle 12 = .ok (.invokevirtual 214, 3) := by decide +kernel
theorem dX7_settle_15 : decode cX7_settle 15 = .ok (.aload_n 0, 1) := by decide +kernel
theorem dX7_settle_16 : decode cX7_settle 16 = .ok (.getfield 10, 3) := by decide +kernel
theorem dX7_settle_19 : decode cX7_settle 19 = .ok (.aload_n 0, 1) := by decide +kernel
theorem dX7_settle_20 : decode cX7_settle 20 = .ok (.getfield 16, 3) := by decide +kernel
theorem dX7_settle_23 : decode cX7_settle 23 = .ok (.invokevirtual 56, 3) := by decide +kernel
theorem dX7_settle_26 : decode cX7_settle 26 = .ok (.iload_n 1, 1) := by decide +kernel
theorem dX7_settle_27 : decode cX7_settle 27 = .ok (.ireturn, 1) := by decide +kernel
set_option maxRecDepth 20000 in
theorem ggX7_countReasons_X5_clear : GoodIn wsX7_countReasons wsX5_clear := goodIn_r _ [7, 8, 74, 75] (by decide +kernel) (by decide +kernel)
set_option maxRecDepth 20000 in
theorem gX7_countReasons_X5_clear : GoodIn wsX7_countReasons (wsV RX7 217 RX5 yX5_clear wsX5_clear) := goodIn_app (goodIn_of _ (by decide +kernel)) ggX7_countReasons_X5_clear
set_option maxRecDepth 20000 in
theorem ggX7_countReasons_X0_cardsLeft : GoodIn wsX7_countReasons wsX0_cardsLeft := goodIn_r _ [13, 14, 15, 16, 12, 17, 18, 19, 20, 21, 22, 6, 23, 24, 8, 62, 63, 64, 65, 66, 67, 68, 69, 70, 71, 72, 73, 74, 75] (by decide +kernel) (by decide +kernel)
set_option maxRecDepth 20000 in
theorem gX7_countReasons_X0_cardsLeft : GoodIn wsX7_countReasons (wsV RX7 148 RX0 yX0_cardsLeft wsX0_cardsLeft) := goodIn_app (goodIn_of _ (by decide +kernel)) ggX7_countReasons_X0_cardsLeft
set_option maxRecDepth 20000 in
theorem ggX7_countReasons_X0_reasonAgainst : GoodIn wsX7_countReasons wsX0_reasonAgainst := goodIn_r _ [28, 19, 29, 30, 31, 32, 12, 33, 20, 21, 22, 6, 23, 24, 8, 34, 35, 36, 37, 38, 39, 40, 41, 42, 43, 44, 45, 46, 47, 48, 49, 62, 63, 64, 65, 66, 67, 68, 69, 70, 71, 72, 73, 74, 75] (by decide +kernel) (by decide +kernel)
set_option maxRecDepth 20000 in
theorem gX7_countReasons_X0_reasonAgainst : GoodIn wsX7_countReasons (wsV RX7 97 RX0 yX0_reasonAgainst wsX0_reasonAgainst) := goodIn_app (goodIn_of _ (by decide +kernel)) ggX7_countReasons_X0_reasonAgainst
set_option maxRecDepth 20000 in
theorem ggX7_countReasons_X5_get : GoodIn wsX7_countReasons wsX5_get := goodIn_r _ [23, 24, 8, 74, 75] (by decide +kernel) (by decide +kernel)
set_option maxRecDepth 20000 in
theorem gX7_countReasons_X5_get : GoodIn wsX7_countReasons (wsV RX7 114 RX5 yX5_get wsX5_get) := goodIn_app (goodIn_of _ (by decide +kernel)) ggX7_countReasons_X5_get
set_option maxRecDepth 20000 in
theorem ggX7_countReasons_X5_put : GoodIn wsX7_countReasons wsX5_put := goodIn_r _ [54, 24, 8, 74, 75] (by decide +kernel) (by decide +kernel)
set_option maxRecDepth 20000 in
theorem gX7_countReasons_X5_put : GoodIn wsX7_countReasons (wsV RX7 220 RX5 yX5_put wsX5_put) := goodIn_app (goodIn_of _ (by decide +kernel)) ggX7_countReasons_X5_put
theorem dX7_countReasons_0 : decode cX7_countReasons 0 = .ok (.aload_n 0, 1) := by decide +kernel
theorem dX7_countReasons_1 : decode cX7_countReasons 1 = .ok (.getfield 52, 3) := by decide +kernel
theorem dX7_countReasons_4 : decode cX7_countReasons 4 = .ok (.invokevirtual 217, 3) := by decide +kernel
theorem dX7_countReasons_7 : decode cX7_countReasons 7 = .ok (.aload_n 0, 1) := by decide +kernel
theorem dX7_countReasons_8 : decode cX7_countReasons 8 = .ok (.getfield 10, 3) := by decide +kernel
theorem dX7_countReasons_11 : decode cX7_countReasons 11 = .ok (.invokevirtual 148, 3) := by decide +kernel
theorem dX7_countReasons_14 : decode cX7_countReasons 14 = .ok (.istore_n 1, 1) := by decide +kernel
theorem dX7_countReasons_15 : decode cX7_countReasons 15 = .ok (.iconst 0, 1) := by decide +kernel
theorem dX7_countReasons_16 : decode cX7_countReasons 16 = .ok (.istore_n 2, 1) := by decide +kernel
theorem dX7_countReasons_17 : decode cX7_countReasons 17 = .ok (.iload_n 2, 1) := by decide +kernel
theorem dX7_countReasons_18 : decode cX7_countReasons 18 = .ok (.aload_n 0, 1) := by decide +kernel
theorem dX7_countReasons_19 : decode cX7_countReasons 19 = .ok (.getfield 10, 3) := by decide +kernel
theorem dX7_countReasons_22 : decode cX7_countReasons 22 = .ok (.getfield 160, 3) := by decide +kernel
theorem dX7_countReasons_25 : decode cX7_countReasons 25 = .ok (.if_icmp .ge 67, 3) := by decide +kernel
theorem dX7_countReasons_28 : decode cX7_countReasons 28 = .ok (.iload_n 1, 1) := by decide +kernel
theorem dX7_countReasons_29 : decode cX7_countReasons 29 = .ok (.iload_n 2, 1) := by decide +kernel
theorem dX7_countReasons_30 : decode cX7_countReasons 30 = .ok (.ishr, 1) := by decide +kernel
theorem dX7_countReasons_31 : decode cX7_countReasons 31 = .ok (.iconst 1, 1) := by decide +kernel
theorem dX7_countReasons_32 : decode cX7_countReasons 32 = .ok (.iand, 1) := by decide +kernel
theorem dX7_countReasons_33 : decode cX7_countReasons 33 = .ok (.ifCond .ne 6, 3) := by decide +kernel
theorem dX7_countReasons_36 : decode cX7_countReasons 36 = .ok (.goto 50, 3) := by decide +kernel
theorem dX7_countReasons_39 : decode cX7_countReasons 39 = .ok (.iconst 0, 1) := by decide +kernel
theorem dX7_countReasons_40 : decode cX7_countReasons 40 = .ok (.istore_n 3, 1) := by decide +kernel
theorem dX7_countReasons_41 : decode cX7_countReasons 41 = .ok (.iload_n 3, 1) := by decide +kernel
theorem dX7_countReasons_42 : decode cX7_countReasons 42 = .ok (.bipush 28, 2) := by decide +kernel
theorem dX7_countReasons_44 : decode cX7_countReasons 44 = .ok (.if_icmp .ge 42, 3) := by decide +kernel
theorem dX7_countReasons_47 : decode cX7_countReasons 47 = .ok (.aload_n 0, 1) := by decide +kernel
theorem dX7_countReasons_48 : decode cX7_countReasons 48 = .ok (.getfield 10, 3) := by decide +kernel
theorem dX7_countReasons_51 : decode cX7_countReasons 51 = .ok (.iload_n 2, 1) := by decide +kernel
theorem dX7_countReasons_52 : decode cX7_countReasons 52 = .ok (.iload_n 3, 1) := by decide +kernel
theorem dX7_countReasons_53 : decode cX7_countReasons 53 = .ok (.invokevirtual 97, 3) := by decide +kernel
theorem dX7_countReasons_56 : decode cX7_countReasons 56 = .ok (.istore 4, 2) := by decide +kernel
theorem dX7_countReasons_58 : decode cX7_countReasons 58 = .ok (.aload_n 0, 1) := by decide +kernel
theorem dX7_countReasons_59 : decode cX7_countReasons 59 = .ok (.getfield 52, 3) := by decide +kernel
theorem dX7_countReasons_62 : decode cX7_countReasons 62 = .ok (.iconst 0, 1) := by decide +kernel
theorem dX7_countReasons_63 : decode cX7_countReasons 63 = .ok (.iload 4, 2) := by decide +kernel
theorem dX7_countReasons_65 : decode cX7_countReasons 65 = .ok (.aload_n 0, 1) := by decide +kernel
theorem dX7_countReasons_66 : decode cX7_countReasons 66 = .ok (.getfield 52, 3) := by decide +kernel
theorem dX7_countReasons_69 : decode cX7_countReasons 69 = .ok (.iconst 0, 1) := by decide +kernel
theorem dX7_countReasons_70 : decode cX7_countReasons 70 = .ok (.iload 4, 2) := by decide +kernel
theorem dX7_countReasons_72 : decode cX7_countReasons 72 = .ok (.invokevirtual 114, 3) := by decide +kernel
theorem dX7_countReasons_75 : decode cX7_countReasons 75 = .ok (.iconst 1, 1) := by decide +kernel
theorem dX7_countReasons_76 : decode cX7_countReasons 76 = .ok (.iadd, 1) := by decide +kernel
theorem dX7_countReasons_77 : decode cX7_countReasons 77 = .ok (.invokevirtual 220, 3) := by decide +kernel
theorem dX7_countReasons_80 : decode cX7_countReasons 80 = .ok (.iinc 3 1, 3) := by decide +kernel
theorem dX7_countReasons_83 : decode cX7_countReasons 83 = .ok (.goto (-42), 3) := by decide +kernel
theorem dX7_countReasons_86 : decode cX7_countReasons 86 = .ok (.iinc 2 1, 3) := by decide +kernel
theorem dX7_countReasons_89 : decode cX7_countReasons 89 = .ok (.goto (-72), 3) := by decide +kernel
theorem dX7_countReasons_92 : decode cX7_countReasons 92 = .ok (.return_, 1) := by decide +kernel
theorem dX7_within_0 : decode cX7_within 0 = .ok (.iload_n 0, 1) := by decide +kernel
theorem dX7_within_1 : decode cX7_within 1 = .ok (.iload_n 1, 1) := by decide +kernel
theorem dX7_within_2 : decode cX7_within 2 = .ok (.if_icmp .lt 12, 3) := by decide +kernel
theorem dX7_within_5 : decode cX7_within 5 = .ok (.iload_n 0, 1) := by decide +kernel
theorem dX7_within_6 : decode cX7_within 6 = .ok (.iload_n 2, 1) := by decide +kernel
theorem dX7_within_7 : decode cX7_within 7 = .ok (.if_icmp .gt 7, 3) := by decide +kernel
theorem dX7_within_10 : decode cX7_within 10 = .ok (.iconst 1, 1) := by decide +kernel
theorem dX7_within_11 : decode cX7_within 11 = .ok (.goto 4, 3) := by decide +kernel
theorem dX7_within_14 : decode cX7_within 14 = .ok (.iconst 0, 1) := by decide +kernel
theorem dX7_within_15 : decode cX7_within 15 = .ok (.ireturn, 1) := by decide +kernel
theorem dX8_init_0 : decode cX8_init 0 = .ok (.aload_n 0, 1) := by decide +kernel
theorem dX8_init_1 : decode cX8_init 1 = .ok (.invokespecial 1, 3) := by decide +kernel
theorem dX8_init_4 : decode cX8_init 4 = .ok (.aload_n 0, 1) := by decide +kernel
theorem dX8_init_5 : decode cX8_init 5 = .ok (.sipush 242, 3) := by decide +kernel
theorem dX8_init_8 : decode cX8_init 8 = .ok (.newarray .int, 2) := by decide +kernel
theorem dX8_init_10 : decode cX8_init 10 = .ok (.putfield 7, 3) := by decide +kernel
theorem dX8_init_13 : decode cX8_init 13 = .ok (.aload_n 0, 1) := by decide +kernel
theorem dX8_init_14 : decode cX8_init 14 = .ok (.sipush 242, 3) := by decide +kernel
theorem dX8_init_17 : decode cX8_init 17 = .ok (.newarray .int, 2) := by decide +kernel
theorem dX8_init_19 : decode cX8_init 19 = .ok (.putfield 13, 3) := by decide +kernel
theorem dX8_init_22 : decode cX8_init 22 = .ok (.aload_n 0, 1) := by decide +kernel
theorem dX8_init_23 : decode cX8_init 23 = .ok (.sipush 968, 3) := by decide +kernel
theorem dX8_init_26 : decode cX8_init 26 = .ok (.newarray .int, 2) := by decide +kernel
theorem dX8_init_28 : decode cX8_init 28 = .ok (.putfield 16, 3) := by decide +kernel
theorem dX8_init_31 : decode cX8_init 31 = .ok (.aload_n 0, 1) := by decide +kernel
theorem dX8_init_32 : decode cX8_init 32 = .ok (.bipush 60, 2) := by decide +kernel
theorem dX8_init_34 : decode cX8_init 34 = .ok (.newarray .int, 2) := by decide +kernel
theorem dX8_init_36 : decode cX8_init 36 = .ok (.putfield 19, 3) := by decide +kernel
theorem dX8_init_39 : decode cX8_init 39 = .ok (.aload_n 0, 1) := by decide +kernel
theorem dX8_init_40 : decode cX8_init 40 = .ok (.bipush 12, 2) := by decide +kernel
theorem dX8_init_42 : decode cX8_init 42 = .ok (.newarray .int, 2) := by decide +kernel
theorem dX8_init_44 : decode cX8_init 44 = .ok (.putfield 22, 3) := by decide +kernel
theorem dX8_init_47 : decode cX8_init 47 = .ok (.aload_n 0, 1) := by decide +kernel
theorem dX8_init_48 : decode cX8_init 48 = .ok (.bipush 12, 2) := by decide +kernel
theorem dX8_init_50 : decode cX8_init 50 = .ok (.newarray .int, 2) := by decide +kernel
theorem dX8_init_52 : decode cX8_init 52 = .ok (.putfield 25, 3) := by decide +kernel
theorem dX8_init_55 : decode cX8_init 55 = .ok (.aload_n 0, 1) := by decide +kernel
theorem dX8_init_56 : decode cX8_init 56 = .ok (.bipush 6, 2) := by decide +kernel
theorem dX8_init_58 : decode cX8_init 58 = .ok (.newarray .int, 2) := by decide +kernel
theorem dX8_init_60 : decode cX8_init 60 = .ok (.putfield 28, 3) := by decide +kernel
theorem dX8_init_63 : decode cX8_init 63 = .ok (.aload_n 0, 1) := by decide +kernel
theorem dX8_init_64 : decode cX8_init 64 = .ok (.getfield 7, 3) := by decide +kernel
theorem dX8_init_67 : decode cX8_init 67 = .ok (.bipush 8, 2) := by decide +kernel
theorem dX8_init_69 : decode cX8_init 69 = .ok (.iconst 2, 1) := by decide +kernel
theorem dX8_init_70 : decode cX8_init 70 = .ok (.iastore, 1) := by decide +kernel
theorem dX8_init_71 : decode cX8_init 71 = .ok (.aload_n 0, 1) := by decide +kernel
theorem dX8_init_72 : decode cX8_init 72 = .ok (.getfield 7, 3) := by decide +kernel
theorem dX8_init_75 : decode cX8_init 75 = .ok (.bipush 9, 2) := by decide +kernel
theorem dX8_init_77 : decode cX8_init 77 = .ok (.iconst 3, 1) := by decide +kernel
theorem dX8_init_78 : decode cX8_init 78 = .ok (.iastore, 1) := by decide +kernel
theorem dX8_init_79 : decode cX8_init 79 = .ok (.aload_n 0, 1) := by decide +kernel
theorem dX8_init_80 : decode cX8_init 80 = .ok (.getfield 7, 3) := by decide +kernel
theorem dX8_init_83 : decode cX8_init 83 = .ok (.bipush 10, 2) := by decide +kernel
theorem dX8_init_85 : decode cX8_init 85 = .ok (.bipush 12, 2) := by decide +kernel
theorem dX8_init_87 : decode cX8_init 87 = .ok (.iastore, 1) := by decide +kernel
theorem dX8_init_88 : decode cX8_init 88 = .ok (.iconst 0, 1) := by decide +kernel
theorem dX8_init_89 : decode cX8_init 89 = .ok (.istore_n 1, 1) := by decide +kernel
theorem dX8_init_90 : decode cX8_init 90 = .ok (.iload_n 1, 1) := by decide +kernel
theorem dX8_init_91 : decode cX8_init 91 = .ok (.bipush 28, 2) := by decide +kernel
theorem dX8_init_93 : decode cX8_init 93 = .ok (.if_icmp .ge 52, 3) := by decide +kernel
theorem dX8_init_96 : decode cX8_init 96 = .ok (.aload_n 0, 1) := by decide +kernel
theorem dX8_init_97 : decode cX8_init 97 = .ok (.getfield 7, 3) := by decide +kernel
theorem dX8_init_100 : decode cX8_init 100 = .ok (.bipush 62, 2) := by decide +kernel
theorem dX8_init_102 : decode cX8_init 102 = .ok (.iconst 3, 1) := by decide +kernel
theorem dX8_init_103 : decode cX8_init 103 = .ok (.iload_n 1, 1) := by decide +kernel
theorem dX8_init_104 : decode cX8_init 104 = .ok (.imul, 1) := by decide +kernel
theorem dX8_init_105 : decode cX8_init 105 = .ok (.iadd, 1) := by decide +kernel
theorem dX8_init_106 : decode cX8_init 106 = .ok (.bipush 10, 2) := by decide +kernel
theorem dX8_init_108 : decode cX8_init 108 = .ok (.iastore, 1) := by decide +kernel
theorem dX8_init_109 : decode cX8_init 109 = .ok (.aload_n 0, 1) := by decide +kernel
theorem dX8_init_110 : decode cX8_init 110 = .ok (.getfield 7, 3) := by decide +kernel
theorem dX8_init_113 : decode cX8_init 113 = .ok (.bipush 62, 2) := by decide +kernel
theorem dX8_init_115 : decode cX8_init 115 = .ok (.iconst 3, 1) := by decide +kernel
theorem dX8_init_116 : decode cX8_init 116 = .ok (.iload_n 1, 1) := by decide +kernel
theorem dX8_init_117 : decode cX8_init 117 = .ok (.imul, 1) := by decide +kernel
theorem dX8_init_118 : decode cX8_init 118 = .ok (.iadd, 1) := by decide +kernel
theorem dX8_init_119 : decode cX8_init 119 = .ok (.iconst 1, 1) := by decide +kernel
theorem dX8_init_120 : decode cX8_init 120 = .ok (.iadd, 1) := by decide +kernel
theorem dX8_init_121 : decode cX8_init 121 = .ok (.bipush 50, 2) := by decide +kernel
theorem dX8_init_123 : decode cX8_init 123 = .ok (.iastore, 1) := by decide +kernel
theorem dX8_init_124 : decode cX8_init 124 = .ok (.aload_n 0, 1) := by decide +kernel
theorem dX8_init_125 : decode cX8_init 125 = .ok (.getfield 7, 3) := by decide +kernel
theorem dX8_init_128 : decode cX8_init 128 = .ok (.bipush 62, 2) := by decide +kernel
theorem dX8_init_130 : decode cX8_init 130 = .ok (.iconst 3, 1) := by decide +kernel
theorem dX8_init_131 : decode cX8_init 131 = .ok (.iload_n 1, 1) := by decide +kernel
theorem dX8_init_132 : decode cX8_init 132 = .ok (.imul, 1) := by decide +kernel
theorem dX8_init_133 : decode cX8_init 133 = .ok (.iadd, 1) := by decide +kernel
theorem dX8_init_134 : decode cX8_init 134 = .ok (.iconst 2, 1) := by decide +kernel
theorem dX8_init_135 : decode cX8_init 135 = .ok (.iadd, 1) := by decide +kernel
theorem dX8_init_136 : decode cX8_init 136 = .ok (.bipush 10, 2) := by decide +kernel
theorem dX8_init_138 : decode cX8_init 138 = .ok (.iastore, 1) := by decide +kernel
theorem dX8_init_139 : decode cX8_init 139 = .ok (.iinc 1 1, 3) := by decide +kernel
theorem dX8_init_142 : decode cX8_init 142 = .ok (.goto (-52), 3) := by decide +kernel
theorem dX8_init_145 : decode cX8_init 145 = .ok (.return_, 1) := by decide +kernel
theorem dX8_in_0 : decode cX8_in 0 = .ok (.iload_n 0, 1) := by decide +kernel
theorem dX8_in_1 : decode cX8_in 1 = .ok (.iload_n 1, 1) := by decide +kernel
theorem dX8_in_2 : decode cX8_in 2 = .ok (.if_icmp .lt 12, 3) := by decide +kernel
theorem dX8_in_5 : decode cX8_in 5 = .ok (.iload_n 0, 1) := by decide +kernel
theorem dX8_in_6 : decode cX8_in 6 = .ok (.iload_n 2, 1) := by decide +kernel
theorem dX8_in_7 : decode cX8_in 7 = .ok (.if_icmp .gt 7, 3) := by decide +kernel
theorem dX8_in_10 : decode cX8_in 10 = .ok (.iconst 1, 1) := by decide +kernel
theorem dX8_in_11 : decode cX8_in 11 = .ok (.goto 4, 3) := by decide +kernel
theorem dX8_in_14 : decode cX8_in 14 = .ok (.iconst 0, 1) := by decide +kernel
theorem dX8_in_15 : decode cX8_in 15 = .ok (.ireturn, 1) := by decide +kernel
set_option maxRecDepth 20000 in
theorem ggX8_isLimit_X8_in : GoodIn wsX8_isLimit wsX8_in := goodIn_r _ [4] (by decide +kernel) (by decide +kernel)
set_option maxRecDepth 20000 in
theorem gX8_isLimit_X8_in : GoodIn wsX8_isLimit (va_wsS RX8 31 yX8_in wsX8_in) := goodIn_app (goodIn_of _ (by decide +kernel)) ggX8_isLimit_X8_in
theorem dX8_isLimit_0 : decode cX8_isLimit 0 = .ok (.iload_n 0, 1) := by decide +kernel
theorem dX8_isLimit_1 : decode cX8_isLimit 1 = .ok (.iconst 0, 1) := by decide +kernel
theorem dX8_isLimit_2 : decode cX8_isLimit 2 = .ok (.bipush 99, 2) := by decide +kernel
theorem dX8_isLimit_4 : decode cX8_isLimit 4 = .ok (.invokestatic 31, 3) := by decide +kernel
theorem dX8_isLimit_7 : decode cX8_isLimit 7 = .ok (.ireturn, 1) := by decide +kernel
theorem dX8_begins_0 : decode cX8_begins 0 = .ok (.iconst 0, 1) := by decide +kernel
theorem dX8_begins_1 : decode cX8_begins 1 = .ok (.istore_n 1, 1) := by decide +kernel
theorem dX8_begins_2 : decode cX8_begins 2 = .ok (.iload_n 1, 1) := by decide +kernel
theorem dX8_begins_3 : decode cX8_begins 3 = .ok (.sipush 242, 3) := by decide +kernel
theorem dX8_begins_6 : decode cX8_begins 6 = .ok (.if_icmp .ge 21, 3) := by decide +kernel
theorem dX8_begins_9 : decode cX8_begins 9 = .ok (.aload_n 0, 1) := by decide +kernel
theorem dX8_begins_10 : decode cX8_begins 10 = .ok (.getfield 13, 3) := by decide +kernel
theorem dX8_begins_13 : decode cX8_begins 13 = .ok (.iload_n 1, 1) := by decide +kernel
theorem dX8_begins_14 : decode cX8_begins 14 = .ok (.aload_n 0, 1) := by decide +kernel
theorem dX8_begins_15 : decode cX8_begins 15 = .ok (.getfield 7, 3) := by decide +kernel
theorem dX8_begins_18 : decode cX8_begins 18 = .ok (.iload_n 1, 1) := by decide +kernel
theorem dX8_begins_19 : decode cX8_begins 19 = .ok (.iaload, 1) := by decide +kernel
theorem dX8_begins_20 : decode cX8_begins 20 = .ok (.iastore, 1) := by decide +kernel
theorem dX8_begins_21 : decode cX8_begins 21 = .ok (.iinc 1 1, 3) := by decide +kernel
theorem dX8_begins_24 : decode cX8_begins 24 = .ok (.goto (-22), 3) := by decide +kernel
theorem dX8_begins_27 : decode cX8_begins 27 = .ok (.return_, 1) := by decide +kernel
theorem dX8_returns_0 : decode cX8_returns 0 = .ok (.iconst 0, 1) := by decide +kernel
theorem dX8_returns_1 : decode cX8_returns 1 = .ok (.istore_n 1, 1) := by decide +kernel
theorem dX8_returns_2 : decode cX8_returns 2 = .ok (.iload_n 1, 1) := by decide +kernel
theorem dX8_returns_3 : decode cX8_returns 3 = .ok (.sipush 242, 3) := by decide +kernel
theorem dX8_returns_6 : decode cX8_returns 6 = .ok (.if_icmp .ge 21, 3) := by decide +kernel
theorem dX8_returns_9 : decode cX8_returns 9 = .ok (.aload_n 0, 1) := by decide +kernel
theorem dX8_returns_10 : decode cX8_returns 10 = .ok (.getfield 7, 3) := by decide +kernel
theorem dX8_returns_13 : decode cX8_returns 13 = .ok (.iload_n 1, 1) := by decide +kernel
theorem dX8_returns_14 : decode cX8_returns 14 = .ok (.aload_n 0, 1) := by decide +kernel
theorem dX8_returns_15 : decode cX8_returns 15 = .ok (.getfield 13, 3) := by decide +kernel
theorem dX8_returns_18 : decode cX8_returns 18 = .ok (.iload_n 1, 1) := by decide +kernel
theorem dX8_returns_19 : decode cX8_returns 19 = .ok (.iaload, 1) := by decide +kernel
theorem dX8_returns_20 : decode cX8_returns 20 = .ok (.iastore, 1) := by decide +kernel
theorem dX8_returns_21 : decode cX8_returns 21 = .ok (.iinc 1 1, 3) := by decide +kernel
theorem dX8_returns_24 : decode cX8_returns 24 = .ok (.goto (-22), 3) := by decide +kernel
theorem dX8_returns_27 : decode cX8_returns 27 = .ok (.return_, 1) := by decide +kernel
set_option maxRecDepth 20000 in
theorem ggX8_acted_X8_returns : GoodIn wsX8_acted wsX8_returns := goodIn_r _ [9, 10, 4, 11, 12, 13, 14, 15, 16, 17, 18, 19, 20, 21, 22, 23, 24, 25, 26, 27, 28] (by decide +kernel) (by decide +kernel)
set_option maxRecDepth 20000 in
theorem gX8_acted_X8_returns : GoodIn wsX8_acted (wsV RX8 36 RX8 yX8_returns wsX8_returns) := goodIn_app (goodIn_of _ (by decide +kernel)) ggX8_acted_X8_returns
theorem dX8_acted_0 : decode cX8_acted 0 = .ok (.iload_n 1, 1) := by decide +kernel
theorem dX8_acted_1 : decode cX8_acted 1 = .ok (.ldc 35, 2) := by decide +kernel
theorem dX8_acted_3 : decode cX8_acted 3 = .ok (.if_icmp .gt 9, 3) := by decide +kernel
theorem dX8_acted_6 : decode cX8_acted 6 = .ok (.aload_n 0, 1) := by decide +kernel
theorem dX8_acted_7 : decode cX8_acted 7 = .ok (.invokevirtual 36, 3) := by decide +kernel
theorem dX8_acted_10 : decode cX8_acted 10 = .ok (.iload_n 1, 1) := by decide +kernel
theorem dX8_acted_11 : decode cX8_acted 11 = .ok (.ireturn, 1) := by decide +kernel
theorem dX8_acted_12 : decode cX8_acted 12 = .ok (.aload_n 0, 1) := by decide +kernel
theorem dX8_acted_13 : decode cX8_acted 13 = .ok (.getfield 39, 3) := by decide +kernel
theorem dX8_acted_16 : decode cX8_acted 16 = .ok (.iconst 4, 1) := by decide +kernel
theorem dX8_acted_17 : decode cX8_acted 17 = .ok (.if_icmp .ne 44, 3) := by decide +kernel
theorem dX8_acted_20 : decode cX8_acted 20 = .ok (.iconst 0, 1) := by decide +kernel
theorem dX8_acted_21 : decode cX8_acted 21 = .ok (.istore_n 2, 1) := by decide +kernel
theorem dX8_acted_22 : decode cX8_acted 22 = .ok (.iload_n 2, 1) := by decide +kernel
theorem dX8_acted_23 : decode cX8_acted 23 = .ok (.sipush 726, 3) := by decide +kernel
theorem dX8_acted_26 : decode cX8_acted 26 = .ok (.if_icmp .ge 25, 3) := by decide +kernel
theorem dX8_acted_29 : decode cX8_acted 29 = .ok (.aload_n 0, 1) := by decide +kernel
theorem dX8_acted_30 : decode cX8_acted 30 = .ok (.getfield 16, 3) := by decide +kernel
theorem dX8_acted_33 : decode cX8_acted 33 = .ok (.iload_n 2, 1) := by decide +kernel
theorem dX8_acted_34 : decode cX8_acted 34 = .ok (.aload_n 0, 1) := by decide +kernel
theorem dX8_acted_35 : decode cX8_acted 35 = .ok (.getfield 16, 3) := by decide +kernel
theorem dX8_acted_38 : decode cX8_acted 38 = .ok (.iload_n 2, 1) := by decide +kernel
theorem dX8_acted_39 : decode cX8_acted 39 = .ok (.sipush 242, 3) := by decide +kernel
theorem dX8_acted_42 : decode cX8_acted 42 = .ok (.iadd, 1) := by decide +kernel
theorem dX8_acted_43 : decode cX8_acted 43 = .ok (.iaload, 1) := by decide +kernel
theorem dX8_acted_44 : decode cX8_acted 44 = .ok (.iastore, 1) := by decide +kernel
theorem dX8_acted_45 : decode cX8_acted 45 = .ok (.iinc 2 1, 3) := by decide +kernel
theorem dX8_acted_48 : decode cX8_acted 48 = .ok (.goto (-26), 3) := by decide +kernel
theorem dX8_acted_51 : decode cX8_acted 51 = .ok (.aload_n 0, 1) := by decide +kernel
theorem dX8_acted_52 : decode cX8_acted 52 = .ok (.dup, 1) := by decide +kernel
theorem dX8_acted_53 : decode cX8_acted 53 = .ok (.getfield 39, 3) := by decide +kernel
theorem dX8_acted_56 : decode cX8_acted 56 = .ok (.iconst 1, 1) := by decide +kernel
theorem dX8_acted_57 : decode cX8_acted 57 = .ok (.isub, 1) := by decide +kernel
theorem dX8_acted_58 : decode cX8_acted 58 = .ok (.putfield 39, 3) := by decide +kernel
theorem dX8_acted_61 : decode cX8_acted 61 = .ok (.iconst 0, 1) := by decide +kernel
theorem dX8_acted_62 : decode cX8_acted 62 = .ok (.istore_n 2, 1) := by decide +kernel
theorem dX8_acted_63 : decode cX8_acted 63 = .ok (.iload_n 2, 1) := by decide +kernel
theorem dX8_acted_64 : decode cX8_acted 64 = .ok (.sipush 242, 3) := by decide +kernel
theorem dX8_acted_67 : decode cX8_acted 67 = .ok (.if_icmp .ge 30, 3) := by decide +kernel
theorem dX8_acted_70 : decode cX8_acted 70 = .ok (.aload_n 0, 1) := by decide +kernel
theorem dX8_acted_71 : decode cX8_acted 71 = .ok (.getfield 16, 3) := by decide +kernel
theorem dX8_acted_74 : decode cX8_acted 74 = .ok (.sipush 242, 3) := by decide +kernel
theorem dX8_acted_77 : decode cX8_acted 77 = .ok (.aload_n 0, 1) := by decide +kernel
theorem dX8_acted_78 : decode cX8_acted 78 = .ok (.getfield 39, 3) := by decide +kernel
theorem dX8_acted_81 : decode cX8_acted 81 = .ok (.imul, 1) := by decide +kernel
theorem dX8_acted_82 : decode cX8_acted 82 = .ok (.iload_n 2, 1) := by decide +kernel
theorem dX8_acted_83 : decode cX8_acted 83 = .ok (.iadd, 1) := by decide +kernel
theorem dX8_acted_84 : decode cX8_acted 84 = .ok (.aload_n 0, 1) := by decide +kernel
theorem dX8_acted_85 : decode cX8_acted 85 = .ok (.getfield 13, 3) := by decide +kernel
theorem dX8_acted_88 : decode cX8_acted 88 = .ok (.iload_n 2, 1) := by decide +kernel
theorem dX8_acted_89 : decode cX8_acted 89 = .ok (.iaload, 1) := by decide +kernel
theorem dX8_acted_90 : decode cX8_acted 90 = .ok (.iastore, 1) := by decide +kernel
theorem dX8_acted_91 : decode cX8_acted 91 = .ok (.iinc 2 1, 3) := by decide +kernel
theorem dX8_acted_94 : decode cX8_acted 94 = .ok (.goto (-31), 3) := by decide +kernel
theorem dX8_acted_97 : decode cX8_acted 97 = .ok (.aload_n 0, 1) := by decide +kernel
theorem dX8_acted_98 : decode cX8_acted 98 = .ok (.dup, 1) := by decide +kernel
theorem dX8_acted_99 : decode cX8_acted 99 = .ok (.getfield 39, 3) := by decide +kernel
theorem dX8_acted_102 : decode cX8_acted 102 = .ok (.iconst 1, 1) := by decide +kernel
theorem dX8_acted_103 : decode cX8_acted 103 = .ok (.iadd, 1) := by decide +kernel
theorem dX8_acted_104 : decode cX8_acted 104 = .ok (.putfield 39, 3) := by decide +kernel
theorem dX8_acted_107 : decode cX8_acted 107 = .ok (.iload_n 1, 1) := by decide +kernel
theorem dX8_acted_108 : decode cX8_acted 108 = .ok (.ireturn, 1) := by decide +kernel
theorem dX8_of_0 : decode cX8_of 0 = .ok (.aload_n 0, 1) := by decide +kernel
theorem dX8_of_1 : decode cX8_of 1 = .ok (.getfield 7, 3) := by decide +kernel
theorem dX8_of_4 : decode cX8_of 4 = .ok (.sipush 146, 3) := by decide +kernel
theorem dX8_of_7 : decode cX8_of 7 = .ok (.bipush 8, 2) := by decide +kernel
theorem dX8_of_9 : decode cX8_of 9 = .ok (.iload_n 1, 1) := by decide +kernel
theorem dX8_of_10 : decode cX8_of 10 = .ok (.imul, 1) := by decide +kernel
theorem dX8_of_11 : decode cX8_of 11 = .ok (.iadd, 1) := by decide +kernel
theorem dX8_of_12 : decode cX8_of 12 = .ok (.iload_n 2, 1) := by decide +kernel
theorem dX8_of_13 : decode cX8_of 13 = .ok (.iadd, 1) := by decide +kernel
theorem dX8_of_14 : decode cX8_of 14 = .ok (.iaload, 1) := by decide +kernel
theorem dX8_of_15 : decode cX8_of 15 = .ok (.ireturn, 1) := by decide +kernel
theorem dX8_lays_0 : decode cX8_lays 0 = .ok (.aload_n 0, 1) := by decide +kernel
theorem dX8_lays_1 : decode cX8_lays 1 = .ok (.getfield 7, 3) := by decide +kernel
theorem dX8_lays_4 : decode cX8_lays 4 = .ok (.sipush 146, 3) := by decide +kernel
theorem dX8_lays_7 : decode cX8_lays 7 = .ok (.bipush 8, 2) := by decide +kernel
theorem dX8_lays_9 : decode cX8_lays 9 = .ok (.iload_n 1, 1) := by decide +kernel
theorem dX8_lays_10 : decode cX8_lays 10 = .ok (.imul, 1) := by decide +kernel
theorem dX8_lays_11 : decode cX8_lays 11 = .ok (.iadd, 1) := by decide +kernel
theorem dX8_lays_12 : decode cX8_lays 12 = .ok (.iload_n 2, 1) := by decide +kernel
theorem dX8_lays_13 : decode cX8_lays 13 = .ok (.iadd, 1) := by decide +kernel
theorem dX8_lays_14 : decode cX8_lays 14 = .ok (.iload_n 3, 1) := by decide +kernel
theorem dX8_lays_15 : decode cX8_lays 15 = .ok (.iastore, 1) := by decide +kernel
theorem dX8_lays_16 : decode cX8_lays 16 = .ok (.return_, 1) := by decide +kernel
set_option maxRecDepth 20000 in
theorem ggX8_isCard_X8_in : GoodIn wsX8_isCard wsX8_in := goodIn_r _ [5] (by decide +kernel) (by decide +kernel)
set_option maxRecDepth 20000 in
theorem gX8_isCard_X8_in : GoodIn wsX8_isCard (va_wsS RX8 31 yX8_in wsX8_in) := goodIn_app (goodIn_of _ (by decide +kernel)) ggX8_isCard_X8_in
theorem dX8_isCard_0 : decode cX8_isCard 0 = .ok (.iload_n 1, 1) := by decide +kernel
theorem dX8_isCard_1 : decode cX8_isCard 1 = .ok (.iconst 0, 1) := by decide +kernel
theorem dX8_isCard_2 : decode cX8_isCard 2 = .ok (.aload_n 0, 1) := by decide +kernel
theorem dX8_isCard_3 : decode cX8_isCard 3 = .ok (.getfield 7, 3) := by decide +kernel
theorem dX8_isCard_6 : decode cX8_isCard 6 = .ok (.iconst 0, 1) := by decide +kernel
theorem dX8_isCard_7 : decode cX8_isCard 7 = .ok (.iaload, 1) := by decide +kernel
theorem dX8_isCard_8 : decode cX8_isCard 8 = .ok (.iconst 1, 1) := by decide +kernel
theorem dX8_isCard_9 : decode cX8_isCard 9 = .ok (.isub, 1) := by decide +kernel
theorem dX8_isCard_10 : decode cX8_isCard 10 = .ok (.invokestatic 31, 3) := by decide +kernel
theorem dX8_isCard_13 : decode cX8_isCard 13 = .ok (.ireturn, 1) := by decide +kernel
set_option maxRecDepth 20000 in
theorem ggX8_isDone_X8_of : GoodIn wsX8_isDone wsX8_of := goodIn_r _ [5, 6, 7, 8, 9, 10, 11, 12, 13, 14, 15, 16, 17, 18, 19, 20, 21, 22, 23, 24] (by decide +kernel) (by decide +kernel)
set_option maxRecDepth 20000 in
theorem gX8_isDone_X8_of : GoodIn wsX8_isDone (wsV RX8 43 RX8 yX8_of wsX8_of) := goodIn_app (goodIn_of _ (by decide +kernel)) ggX8_isDone_X8_of
theorem dX8_isDone_0 : decode cX8_isDone 0 = .ok (.aload_n 0, 1) := by decide +kernel
theorem dX8_isDone_1 : decode cX8_isDone 1 = .ok (.iload_n 1, 1) := by decide +kernel
theorem dX8_isDone_2 : decode cX8_isDone 2 = .ok (.bipush 6, 2) := by decide +kernel
theorem dX8_isDone_4 : decode cX8_isDone 4 = .ok (.invokevirtual 43, 3) := by decide +kernel
theorem dX8_isDone_7 : decode cX8_isDone 7 = .ok (.iconst 1, 1) := by decide +kernel
theorem dX8_isDone_8 : decode cX8_isDone 8 = .ok (.if_icmp .eq 14, 3) := by decide +kernel
theorem dX8_isDone_11 : decode cX8_isDone 11 = .ok (.aload_n 0, 1) := by decide +kernel
theorem dX8_isDone_12 : decode cX8_isDone 12 = .ok (.iload_n 1, 1) := by decide +kernel
theorem dX8_isDone_13 : decode cX8_isDone 13 = .ok (.bipush 6, 2) := by decide +kernel
theorem dX8_isDone_15 : decode cX8_isDone 15 = .ok (.invokevirtual 43, 3) := by decide +kernel
theorem dX8_isDone_18 : decode cX8_isDone 18 = .ok (.iconst 3, 1) := by decide +kernel
theorem dX8_isDone_19 : decode cX8_isDone 19 = .ok (.if_icmp .ne 7, 3) := by decide +kernel
theorem dX8_isDone_22 : decode cX8_isDone 22 = .ok (.iconst 1, 1) := by decide +kernel
theorem dX8_isDone_23 : decode cX8_isDone 23 = .ok (.goto 4, 3) := by decide +kernel
theorem dX8_isDone_26 : decode cX8_isDone 26 = .ok (.iconst 0, 1) := by decide +kernel
theorem dX8_isDone_27 : decode cX8_isDone 27 = .ok (.ireturn, 1) := by decide +kernel
theorem dX8_sky_0 : decode cX8_sky 0 = .ok (.aload_n 0, 1) := by decide +kernel
theorem dX8_sky_1 : decode cX8_sky 1 = .ok (.getfield 7, 3) := by decide +kernel
theorem dX8_sky_4 : decode cX8_sky 4 = .ok (.bipush 62, 2) := by decide +kernel
theorem dX8_sky_6 : decode cX8_sky 6 = .ok (.iconst 3, 1) := by decide +kernel
theorem dX8_sky_7 : decode cX8_sky 7 = .ok (.iload_n 1, 1) := by decide +kernel
theorem dX8_sky_8 : decode cX8_sky 8 = .ok (.bipush 28, 2) := by decide +kernel
theorem dX8_sky_10 : decode cX8_sky 10 = .ok (.irem, 1) := by decide +kernel
theorem dX8_sky_11 : decode cX8_sky 11 = .ok (.imul, 1) := by decide +kernel
theorem dX8_sky_12 : decode cX8_sky 12 = .ok (.iadd, 1) := by decide +kernel
theorem dX8_sky_13 : decode cX8_sky 13 = .ok (.iload_n 2, 1) := by decide +kernel
theorem dX8_sky_14 : decode cX8_sky 14 = .ok (.iadd, 1) := by decide +kernel
theorem dX8_sky_15 : decode cX8_sky 15 = .ok (.iaload, 1) := by decide +kernel
theorem dX8_sky_16 : decode cX8_sky 16 = .ok (.ireturn, 1) := by decide +kernel
set_option maxRecDepth 20000 in
theorem ggX8_against_X8_sky : GoodIn wsX8_against wsX8_sky := goodIn_r _ [5, 6, 11, 12, 13, 14, 15, 16, 17, 18, 19, 20, 21, 22, 23, 24, 25, 26, 27, 28] (by decide +kernel) (by decide +kernel)
set_option maxRecDepth 20000 in
theorem gX8_against_X8_sky : GoodIn wsX8_against (wsV RX8 47 RX8 yX8_sky wsX8_sky) := goodIn_app (goodIn_of _ (by decide +kernel)) ggX8_against_X8_sky
set_option maxRecDepth 20000 in
theorem ggX8_against_X8_of : GoodIn wsX8_against wsX8_of := goodIn_r _ [10, 6, 11, 12, 13, 14, 15, 16, 17, 18, 19, 20, 21, 22, 23, 24, 25, 26, 27, 28] (by decide +kernel) (by decide +kernel)
set_option maxRecDepth 20000 in
theorem gX8_against_X8_of : GoodIn wsX8_against (wsV RX8 43 RX8 yX8_of wsX8_of) := goodIn_app (goodIn_of _ (by decide +kernel)) ggX8_against_X8_of
theorem dX8_against_0 : decode cX8_against 0 = .ok (.aload_n 0, 1) := by decide +kernel
theorem dX8_against_1 : decode cX8_against 1 = .ok (.iload_n 2, 1) := by decide +kernel
theorem dX8_against_2 : decode cX8_against 2 = .ok (.iconst 0, 1) := by decide +kernel
theorem dX8_against_3 : decode cX8_against 3 = .ok (.invokevirtual 47, 3) := by decide +kernel
theorem dX8_against_6 : decode cX8_against 6 = .ok (.aload_n 0, 1) := by decide +kernel
theorem dX8_against_7 : decode cX8_against 7 = .ok (.iload_n 1, 1) := by decide +kernel
theorem dX8_against_8 : decode cX8_against 8 = .ok (.iconst 0, 1) := by decide +kernel
theorem dX8_against_9 : decode cX8_against 9 = .ok (.invokevirtual 43, 3) := by decide +kernel
theorem dX8_against_12 : decode cX8_against 12 = .ok (.if_icmp .le 5, 3) := by decide +kernel
theorem dX8_against_15 : decode cX8_against 15 = .ok (.iconst 3, 1) := by decide +kernel
theorem dX8_against_16 : decode cX8_against 16 = .ok (.ireturn, 1) := by decide +kernel
theorem dX8_against_17 : decode cX8_against 17 = .ok (.aload_n 0, 1) := by decide +kernel
theorem dX8_against_18 : decode cX8_against 18 = .ok (.iload_n 2, 1) := by decide +kernel
theorem dX8_against_19 : decode cX8_against 19 = .ok (.iconst 1, 1) := by decide +kernel
theorem dX8_against_20 : decode cX8_against 20 = .ok (.invokevirtual 47, 3) := by decide +kernel
theorem dX8_against_23 : decode cX8_against 23 = .ok (.aload_n 0, 1) := by decide +kernel
theorem dX8_against_24 : decode cX8_against 24 = .ok (.iload_n 1, 1) := by decide +kernel
theorem dX8_against_25 : decode cX8_against 25 = .ok (.iconst 1, 1) := by decide +kernel
theorem dX8_against_26 : decode cX8_against 26 = .ok (.invokevirtual 43, 3) := by decide +kernel
theorem dX8_against_29 : decode cX8_against 29 = .ok (.if_icmp .ge 7, 3) := by decide +kernel
theorem dX8_against_32 : decode cX8_against 32 = .ok (.iconst 4, 1) := by decide +kernel
theorem dX8_against_33 : decode cX8_against 33 = .ok (.goto 23, 3) := by decide +kernel
theorem dX8_against_36 : decode cX8_against 36 = .ok (.aload_n 0, 1) := by decide +kernel
theorem dX8_against_37 : decode cX8_against 37 = .ok (.iload_n 2, 1) := by decide +kernel
theorem dX8_against_38 : decode cX8_against 38 = .ok (.iconst 2, 1) := by decide +kernel
theorem dX8_against_39 : decode cX8_against 39 = .ok (.invokevirtual 47, 3) := by decide +kernel
theorem dX8_against_42 : decode cX8_against 42 = .ok (.aload_n 0, 1) := by decide +kernel
theorem dX8_against_43 : decode cX8_against 43 = .ok (.iload_n 1, 1) := by decide +kernel
theorem dX8_against_44 : decode cX8_against 44 = .ok (.iconst 2, 1) := by decide +kernel
theorem dX8_against_45 : decode cX8_against 45 = .ok (.invokevirtual 43, 3) := by decide +kernel
theorem dX8_against_48 : decode cX8_against 48 = .ok (.if_icmp .ge 7, 3) := by decide +kernel
theorem dX8_against_51 : decode cX8_against 51 = .ok (.iconst 5, 1) := by decide +kernel
theorem dX8_against_52 : decode cX8_against 52 = .ok (.goto 4, 3) := by decide +kernel
theorem dX8_against_55 : decode cX8_against 55 = .ok (.iconst 0, 1) := by decide +kernel
theorem dX8_against_56 : decode cX8_against 56 = .ok (.ireturn, 1) := by decide +kernel
set_option maxRecDepth 20000 in
theorem ggX8_cardsBy_X8_against : GoodIn wsX8_cardsBy wsX8_against := goodIn_r _ [6, 7, 8, 9, 5, 10, 1, 11, 12, 13, 14, 15, 16, 17, 18, 19, 20, 21, 22, 23, 24, 25, 26, 27, 28, 29, 30, 31, 32] (by decide +kernel) (by decide +kernel)
set_option maxRecDepth 20000 in
theorem gX8_cardsBy_X8_against : GoodIn wsX8_cardsBy (wsV RX8 50 RX8 yX8_against wsX8_against) := goodIn_app (goodIn_of _ (by decide +kernel)) ggX8_cardsBy_X8_against
theorem dX8_cardsBy_0 : decode cX8_cardsBy 0 = .ok (.iconst 0, 1) := by decide +kernel
theorem dX8_cardsBy_1 : decode cX8_cardsBy 1 = .ok (.istore_n 2, 1) := by decide +kernel
theorem dX8_cardsBy_2 : decode cX8_cardsBy 2 = .ok (.iconst 0, 1) := by decide +kernel
theorem dX8_cardsBy_3 : decode cX8_cardsBy 3 = .ok (.istore_n 3, 1) := by decide +kernel
theorem dX8_cardsBy_4 : decode cX8_cardsBy 4 = .ok (.iload_n 3, 1) := by decide +kernel
theorem dX8_cardsBy_5 : decode cX8_cardsBy 5 = .ok (.aload_n 0, 1) := by decide +kernel
theorem dX8_cardsBy_6 : decode cX8_cardsBy 6 = .ok (.getfield 7, 3) := by decide +kernel
theorem dX8_cardsBy_9 : decode cX8_cardsBy 9 = .ok (.iconst 0, 1) := by decide +kernel
theorem dX8_cardsBy_10 : decode cX8_cardsBy 10 = .ok (.iaload, 1) := by decide +kernel
theorem dX8_cardsBy_11 : decode cX8_cardsBy 11 = .ok (.if_icmp .ge 28, 3) := by decide +kernel
theorem dX8_cardsBy_14 : decode cX8_cardsBy 14 = .ok (.iload_n 2, 1) := by decide +kernel
theorem dX8_cardsBy_15 : decode cX8_cardsBy 15 = .ok (.aload_n 0, 1) := by decide +kernel
theorem dX8_cardsBy_16 : decode cX8_cardsBy 16 = .ok (.iload_n 3, 1) := by decide +kernel
theorem dX8_cardsBy_17 : decode cX8_cardsBy 17 = .ok (.iload_n 1, 1) := by decide +kernel
theorem dX8_cardsBy_18 : decode cX8_cardsBy 18 = .ok (.invokevirtual 50, 3) := by decide +kernel
theorem dX8_cardsBy_21 : decode cX8_cardsBy 21 = .ok (.ifCond .ne 9, 3) := by decide +kernel
theorem dX8_cardsBy_24 : decode cX8_cardsBy 24 = .ok (.iconst 1, 1) := by decide +kernel
theorem dX8_cardsBy_25 : decode cX8_cardsBy 25 = .ok (.iload_n 3, 1) := by decide +kernel
theorem dX8_cardsBy_26 : decode cX8_cardsBy 26 = .ok (.ishl, 1) := by decide +kernel
theorem dX8_cardsBy_27 : decode cX8_cardsBy 27 = .ok (.goto 4, 3) := by decide +kernel
theorem dX8_cardsBy_30 : decode cX8_cardsBy 30 = .ok (.iconst 0, 1) := by decide +kernel
theorem dX8_cardsBy_31 : decode cX8_cardsBy 31 = .ok (.ior, 1) := by decide +kernel
theorem dX8_cardsBy_32 : decode cX8_cardsBy 32 = .ok (.istore_n 2, 1) := by decide +kernel
theorem dX8_cardsBy_33 : decode cX8_cardsBy 33 = .ok (.iinc 3 1, 3) := by decide +kernel
theorem dX8_cardsBy_36 : decode cX8_cardsBy 36 = .ok (.goto (-32), 3) := by decide +kernel
theorem dX8_cardsBy_39 : decode cX8_cardsBy 39 = .ok (.iload_n 2, 1) := by decide +kernel
theorem dX8_cardsBy_40 : decode cX8_cardsBy 40 = .ok (.ireturn, 1) := by decide +kernel
theorem dX8_ones_0 : decode cX8_ones 0 = .ok (.iconst 0, 1) := by decide +kernel
theorem dX8_ones_1 : decode cX8_ones 1 = .ok (.istore_n 1, 1) := by decide +kernel
theorem dX8_ones_2 : decode cX8_ones 2 = .ok (.iconst 0, 1) := by decide +kernel
theorem dX8_ones_3 : decode cX8_ones 3 = .ok (.istore_n 2, 1) := by decide +kernel
theorem dX8_ones_4 : decode cX8_ones 4 = .ok (.iload_n 2, 1) := by decide +kernel
theorem dX8_ones_5 : decode cX8_ones 5 = .ok (.bipush 12, 2) := by decide +kernel
theorem dX8_ones_7 : decode cX8_ones 7 = .ok (.if_icmp .ge 17, 3) := by decide +kernel
theorem dX8_ones_10 : decode cX8_ones 10 = .ok (.iload_n 1, 1) := by decide +kernel
theorem dX8_ones_11 : decode cX8_ones 11 = .ok (.iload_n 0, 1) := by decide +kernel
theorem dX8_ones_12 : decode cX8_ones 12 = .ok (.iload_n 2, 1) := by decide +kernel
theorem dX8_ones_13 : decode cX8_ones 13 = .ok (.ishr, 1) := by decide +kernel
theorem dX8_ones_14 : decode cX8_ones 14 = .ok (.iconst 1, 1) := by decide +kernel
theorem dX8_ones_15 : decode cX8_ones 15 = .ok (.iand, 1) := by decide +kernel
theorem dX8_ones_16 : decode cX8_ones 16 = .ok (.iadd, 1) := by decide +kernel
theorem dX8_ones_17 : decode cX8_ones 17 = .ok (.istore_n 1, 1) := by decide +kernel
theorem dX8_ones_18 : decode cX8_ones 18 = .ok (.iinc 2 1, 3) := by decide +kernel
theorem dX8_ones_21 : decode cX8_ones 21 = .ok (.goto (-17), 3) := by decide +kernel
theorem dX8_ones_24 : decode cX8_ones 24 = .ok (.iload_n 1, 1) := by decide +kernel
theorem dX8_ones_25 : decode cX8_ones 25 = .ok (.ireturn, 1) := by decide +kernel
set_option maxRecDepth 20000 in
theorem ggX8_isBehind_X8_of : GoodIn wsX8_isBehind wsX8_of := goodIn_r _ [5, 6, 7, 8, 9, 10, 11, 12, 13, 14, 15, 16, 17, 18, 19, 20, 21, 22, 23, 24] (by decide +kernel) (by decide +kernel)
set_option maxRecDepth 20000 in
theorem gX8_isBehind_X8_of : GoodIn wsX8_isBehind (wsV RX8 43 RX8 yX8_of wsX8_of) := goodIn_app (goodIn_of _ (by decide +kernel)) ggX8_isBehind_X8_of
theorem dX8_isBehind_0 : decode cX8_isBehind 0 = .ok (.aload_n 0, 1) := by decide +kernel
theorem dX8_isBehind_1 : decode cX8_isBehind 1 = .ok (.iload_n 1, 1) := by decide +kernel
theorem dX8_isBehind_2 : decode cX8_isBehind 2 = .ok (.iconst 5, 1) := by decide +kernel
theorem dX8_isBehind_3 : decode cX8_isBehind 3 = .ok (.invokevirtual 43, 3) := by decide +kernel
theorem dX8_isBehind_6 : decode cX8_isBehind 6 = .ok (.istore_n 3, 1) := by decide +kernel
theorem dX8_isBehind_7 : decode cX8_isBehind 7 = .ok (.iload_n 3, 1) := by decide +kernel
theorem dX8_isBehind_8 : decode cX8_isBehind 8 = .ok (.ifCond .lt 18, 3) := by decide +kernel
theorem dX8_isBehind_11 : decode cX8_isBehind 11 = .ok (.iload_n 3, 1) := by decide +kernel
theorem dX8_isBehind_12 : decode cX8_isBehind 12 = .ok (.iload_n 2, 1) := by decide +kernel
theorem dX8_isBehind_13 : decode cX8_isBehind 13 = .ok (.if_icmp .eq 13, 3) := by decide +kernel
theorem dX8_isBehind_16 : decode cX8_isBehind 16 = .ok (.aload_n 0, 1) := by decide +kernel
theorem dX8_isBehind_17 : decode cX8_isBehind 17 = .ok (.iload_n 3, 1) := by decide +kernel
theorem dX8_isBehind_18 : decode cX8_isBehind 18 = .ok (.iconst 5, 1) := by decide +kernel
theorem dX8_isBehind_19 : decode cX8_isBehind 19 = .ok (.invokevirtual 43, 3) := by decide +kernel
theorem dX8_isBehind_22 : decode cX8_isBehind 22 = .ok (.istore_n 3, 1) := by decide +kernel
theorem dX8_isBehind_23 : decode cX8_isBehind 23 = .ok (.goto (-16), 3) := by decide +kernel
theorem dX8_isBehind_26 : decode cX8_isBehind 26 = .ok (.iload_n 3, 1) := by decide +kernel
theorem dX8_isBehind_27 : decode cX8_isBehind 27 = .ok (.iload_n 2, 1) := by decide +kernel
theorem dX8_isBehind_28 : decode cX8_isBehind 28 = .ok (.if_icmp .ne 7, 3) := by decide +kernel
theorem dX8_isBehind_31 : decode cX8_isBehind 31 = .ok (.iconst 1, 1) := by decide +kernel
theorem dX8_isBehind_32 : decode cX8_isBehind 32 = .ok (.goto 4, 3) := by decide +kernel
theorem dX8_isBehind_35 : decode cX8_isBehind 35 = .ok (.iconst 0, 1) := by decide +kernel
theorem dX8_isBehind_36 : decode cX8_isBehind 36 = .ok (.ireturn, 1) := by decide +kernel
set_option maxRecDepth 20000 in
theorem ggX8_reason_X8_of : GoodIn wsX8_reason wsX8_of := goodIn_r _ [6, 1, 19, 20, 21, 22, 23, 24, 25, 26, 27, 28, 29, 30, 31, 32, 33, 34, 35, 36] (by decide +kernel) (by decide +kernel)
set_option maxRecDepth 20000 in
theorem gX8_reason_X8_of : GoodIn wsX8_reason (wsV RX8 43 RX8 yX8_of wsX8_of) := goodIn_app (goodIn_of _ (by decide +kernel)) ggX8_reason_X8_of
set_option maxRecDepth 20000 in
theorem ggX8_reason_X8_isDone : GoodIn wsX8_reason wsX8_isDone := goodIn_r _ [10, 2, 3, 4, 5, 6, 1, 19, 20, 21, 22, 23, 24, 25, 26, 27, 28, 29, 30, 31, 32, 33, 34, 35, 36] (by decide +kernel) (by decide +kernel)
set_option maxRecDepth 20000 in
theorem gX8_reason_X8_isDone : GoodIn wsX8_reason (wsV RX8 53 RX8 yX8_isDone wsX8_isDone) := goodIn_app (goodIn_of _ (by decide +kernel)) ggX8_reason_X8_isDone
set_option maxRecDepth 20000 in
theorem ggX8_reason_X8_against : GoodIn wsX8_reason wsX8_against := goodIn_r _ [14, 15, 16, 17, 5, 18, 1, 2, 3, 4, 6, 19, 20, 21, 22, 23, 24, 25, 26, 27, 28, 29, 30, 31, 32, 33, 34, 35, 36] (by decide +kernel) (by decide +kernel)
set_option maxRecDepth 20000 in
theorem gX8_reason_X8_against : GoodIn wsX8_reason (wsV RX8 50 RX8 yX8_against wsX8_against) := goodIn_app (goodIn_of _ (by decide +kernel)) ggX8_reason_X8_against
theorem dX8_reason_0 : decode cX8_reason 0 = .ok (.aload_n 0, 1) := by decide +kernel
theorem dX8_reason_1 : decode cX8_reason 1 = .ok (.iload_n 1, 1) := by decide +kernel
theorem dX8_reason_2 : decode cX8_reason 2 = .ok (.iconst 5, 1) := by decide +kernel
theorem dX8_reason_3 : decode cX8_reason 3 = .ok (.invokevirtual 43, 3) := by decide +kernel
theorem dX8_reason_6 : decode cX8_reason 6 = .ok (.istore_n 3, 1) := by decide +kernel
theorem dX8_reason_7 : decode cX8_reason 7 = .ok (.aload_n 0, 1) := by decide +kernel
theorem dX8_reason_8 : decode cX8_reason 8 = .ok (.iload_n 1, 1) := by decide +kernel
theorem dX8_reason_9 : decode cX8_reason 9 = .ok (.invokevirtual 53, 3) := by decide +kernel
theorem dX8_reason_12 : decode cX8_reason 12 = .ok (.ifCond .eq 5, 3) := by decide +kernel
theorem dX8_reason_15 : decode cX8_reason 15 = .ok (.iconst 1, 1) := by decide +kernel
theorem dX8_reason_16 : decode cX8_reason 16 = .ok (.ireturn, 1) := by decide +kernel
theorem dX8_reason_17 : decode cX8_reason 17 = .ok (.iload_n 3, 1) := by decide +kernel
theorem dX8_reason_18 : decode cX8_reason 18 = .ok (.ifCond .lt 13, 3) := by decide +kernel
theorem dX8_reason_21 : decode cX8_reason 21 = .ok (.aload_n 0, 1) := by decide +kernel
theorem dX8_reason_22 : decode cX8_reason 22 = .ok (.iload_n 3, 1) := by decide +kernel
theorem dX8_reason_23 : decode cX8_reason 23 = .ok (.invokevirtual 53, 3) := by decide +kernel
theorem dX8_reason_26 : decode cX8_reason 26 = .ok (.ifCond .ne 5, 3) := by decide +kernel
theorem dX8_reason_29 : decode cX8_reason 29 = .ok (.iconst 2, 1) := by decide +kernel
theorem dX8_reason_30 : decode cX8_reason 30 = .ok (.ireturn, 1) := by decide +kernel
theorem dX8_reason_31 : decode cX8_reason 31 = .ok (.aload_n 0, 1) := by decide +kernel
theorem dX8_reason_32 : decode cX8_reason 32 = .ok (.getfield 7, 3) := by decide +kernel
theorem dX8_reason_35 : decode cX8_reason 35 = .ok (.iconst 1, 1) := by decide +kernel
theorem dX8_reason_36 : decode cX8_reason 36 = .ok (.iaload, 1) := by decide +kernel
theorem dX8_reason_37 : decode cX8_reason 37 = .ok (.iload_n 2, 1) := by decide +kernel
theorem dX8_reason_38 : decode cX8_reason 38 = .ok (.iadd, 1) := by decide +kernel
theorem dX8_reason_39 : decode cX8_reason 39 = .ok (.istore 4, 2) := by decide +kernel
theorem dX8_reason_41 : decode cX8_reason 41 = .ok (.aload_n 0, 1) := by decide +kernel
theorem dX8_reason_42 : decode cX8_reason 42 = .ok (.iload_n 1, 1) := by decide +kernel
theorem dX8_reason_43 : decode cX8_reason 43 = .ok (.iload 4, 2) := by decide +kernel
theorem dX8_reason_45 : decode cX8_reason 45 = .ok (.invokevirtual 50, 3) := by decide +kernel
theorem dX8_reason_48 : decode cX8_reason 48 = .ok (.istore 5, 2) := by decide +kernel
theorem dX8_reason_50 : decode cX8_reason 50 = .ok (.iload 5, 2) := by decide +kernel
theorem dX8_reason_52 : decode cX8_reason 52 = .ok (.ifCond .le 6, 3) := by decide +kernel
theorem dX8_reason_55 : decode cX8_reason 55 = .ok (.iload 5, 2) := by decide +kernel
theorem dX8_reason_57 : decode cX8_reason 57 = .ok (.ireturn, 1) := by decide +kernel
theorem dX8_reason_58 : decode cX8_reason 58 = .ok (.iload_n 2, 1) := by decide +kernel
theorem dX8_reason_59 : decode cX8_reason 59 = .ok (.ifCond .ne 12, 3) := by decide +kernel
theorem dX8_reason_62 : decode cX8_reason 62 = .ok (.aload_n 0, 1) := by decide +kernel
theorem dX8_reason_63 : decode cX8_reason 63 = .ok (.getfield 7, 3) := by decide +kernel
theorem dX8_reason_66 : decode cX8_reason 66 = .ok (.iconst 2, 1) := by decide +kernel
theorem dX8_reason_67 : decode cX8_reason 67 = .ok (.iaload, 1) := by decide +kernel
theorem dX8_reason_68 : decode cX8_reason 68 = .ok (.goto 4, 3) := by decide +kernel
theorem dX8_reason_71 : decode cX8_reason 71 = .ok (.iconst 0, 1) := by decide +kernel
theorem dX8_reason_72 : decode cX8_reason 72 = .ok (.istore 6, 2) := by decide +kernel
theorem dX8_reason_74 : decode cX8_reason 74 = .ok (.iload_n 2, 1) := by decide +kernel
theorem dX8_reason_75 : decode cX8_reason 75 = .ok (.ifCond .ne 12, 3) := by decide +kernel
theorem dX8_reason_78 : decode cX8_reason 78 = .ok (.aload_n 0, 1) := by decide +kernel
theorem dX8_reason_79 : decode cX8_reason 79 = .ok (.getfield 7, 3) := by decide +kernel
theorem dX8_reason_82 : decode cX8_reason 82 = .ok (.iconst 3, 1) := by decide +kernel
theorem dX8_reason_83 : decode cX8_reason 83 = .ok (.iaload, 1) := by decide +kernel
theorem dX8_reason_84 : decode cX8_reason 84 = .ok (.goto 4, 3) := by decide +kernel
theorem dX8_reason_87 : decode cX8_reason 87 = .ok (.iconst 0, 1) := by decide +kernel
theorem dX8_reason_88 : decode cX8_reason 88 = .ok (.istore 7, 2) := by decide +kernel
theorem dX8_reason_90 : decode cX8_reason 90 = .ok (.iload 4, 2) := by decide +kernel
theorem dX8_reason_92 : decode cX8_reason 92 = .ok (.bipush 7, 2) := by decide +kernel
theorem dX8_reason_94 : decode cX8_reason 94 = .ok (.idiv, 1) := by decide +kernel
theorem dX8_reason_95 : decode cX8_reason 95 = .ok (.aload_n 0, 1) := by decide +kernel
theorem dX8_reason_96 : decode cX8_reason 96 = .ok (.getfield 7, 3) := by decide +kernel
theorem dX8_reason_99 : decode cX8_reason 99 = .ok (.iconst 1, 1) := by decide +kernel
theorem dX8_reason_100 : decode cX8_reason 100 = .ok (.iaload, 1) := by decide +kernel
theorem dX8_reason_101 : decode cX8_reason 101 = .ok (.bipush 7, 2) := by decide +kernel
theorem dX8_reason_103 : decode cX8_reason 103 = .ok (.idiv, 1) := by decide +kernel
theorem dX8_reason_104 : decode cX8_reason 104 = .ok (.if_icmp .ne 12, 3) := by decide +kernel
theorem dX8_reason_107 : decode cX8_reason 107 = .ok (.aload_n 0, 1) := by decide +kernel
theorem dX8_reason_108 : decode cX8_reason 108 = .ok (.getfield 7, 3) := by decide +kernel
theorem dX8_reason_111 : decode cX8_reason 111 = .ok (.iconst 4, 1) := by decide +kernel
theorem dX8_reason_112 : decode cX8_reason 112 = .ok (.iaload, 1) := by decide +kernel
theorem dX8_reason_113 : decode cX8_reason 113 = .ok (.goto 4, 3) := by decide +kernel
theorem dX8_reason_116 : decode cX8_reason 116 = .ok (.iconst 0, 1) := by decide +kernel
theorem dX8_reason_117 : decode cX8_reason 117 = .ok (.istore 8, 2) := by decide +kernel
theorem dX8_reason_119 : decode cX8_reason 119 = .ok (.iload 6, 2) := by decide +kernel
theorem dX8_reason_121 : decode cX8_reason 121 = .ok (.iconst 1, 1) := by decide +kernel
theorem dX8_reason_122 : decode cX8_reason 122 = .ok (.iadd, 1) := by decide +kernel
theorem dX8_reason_123 : decode cX8_reason 123 = .ok (.aload_n 0, 1) := by decide +kernel
theorem dX8_reason_124 : decode cX8_reason 124 = .ok (.getfield 7, 3) := by decide +kernel
theorem dX8_reason_127 : decode cX8_reason 127 = .ok (.bipush 9, 2) := by decide +kernel
theorem dX8_reason_129 : decode cX8_reason 129 = .ok (.iaload, 1) := by decide +kernel
theorem dX8_reason_130 : decode cX8_reason 130 = .ok (.if_icmp .le 6, 3) := by decide +kernel
theorem dX8_reason_133 : decode cX8_reason 133 = .ok (.bipush 6, 2) := by decide +kernel
theorem dX8_reason_135 : decode cX8_reason 135 = .ok (.ireturn, 1) := by decide +kernel
theorem dX8_reason_136 : decode cX8_reason 136 = .ok (.iload 7, 2) := by decide +kernel
theorem dX8_reason_138 : decode cX8_reason 138 = .ok (.aload_n 0, 1) := by decide +kernel
theorem dX8_reason_139 : decode cX8_reason 139 = .ok (.iload_n 1, 1) := by decide +kernel
theorem dX8_reason_140 : decode cX8_reason 140 = .ok (.iconst 3, 1) := by decide +kernel
theorem dX8_reason_141 : decode cX8_reason 141 = .ok (.invokevirtual 43, 3) := by decide +kernel
theorem dX8_reason_144 : decode cX8_reason 144 = .ok (.iadd, 1) := by decide +kernel
theorem dX8_reason_145 : decode cX8_reason 145 = .ok (.aload_n 0, 1) := by decide +kernel
theorem dX8_reason_146 : decode cX8_reason 146 = .ok (.getfield 7, 3) := by decide +kernel
theorem dX8_reason_149 : decode cX8_reason 149 = .ok (.bipush 8, 2) := by decide +kernel
theorem dX8_reason_151 : decode cX8_reason 151 = .ok (.iaload, 1) := by decide +kernel
theorem dX8_reason_152 : decode cX8_reason 152 = .ok (.if_icmp .le 8, 3) := by decide +kernel
theorem dX8_reason_155 : decode cX8_reason 155 = .ok (.bipush 7, 2) := by decide +kernel
theorem dX8_reason_157 : decode cX8_reason 157 = .ok (.goto 28, 3) := by decide +kernel
theorem dX8_reason_160 : decode cX8_reason 160 = .ok (.iload 8, 2) := by decide +kernel
theorem dX8_reason_162 : decode cX8_reason 162 = .ok (.aload_n 0, 1) := by decide +kernel
theorem dX8_reason_163 : decode cX8_reason 163 = .ok (.iload_n 1, 1) := by decide +kernel
theorem dX8_reason_164 : decode cX8_reason 164 = .ok (.iconst 4, 1) := by decide +kernel
theorem dX8_reason_165 : decode cX8_reason 165 = .ok (.invokevirtual 43, 3) := by decide +kernel
theorem dX8_reason_168 : decode cX8_reason 168 = .ok (.iadd, 1) := by decide +kernel
theorem dX8_reason_169 : decode cX8_reason 169 = .ok (.aload_n 0, 1) := by decide +kernel
theorem dX8_reason_170 : decode cX8_reason 170 = .ok (.getfield 7, 3) := by decide +kernel
theorem dX8_reason_173 : decode cX8_reason 173 = .ok (.bipush 10, 2) := by decide +kernel
theorem dX8_reason_175 : decode cX8_reason 175 = .ok (.iaload, 1) := by decide +kernel
theorem dX8_reason_176 : decode cX8_reason 176 = .ok (.if_icmp .le 8, 3) := by decide +kernel
theorem dX8_reason_179 : decode cX8_reason 179 = .ok (.bipush 8, 2) := by decide +kernel
theorem dX8_reason_181 : decode cX8_reason 181 = .ok (.goto 4, 3) := by decide +kernel
theorem dX8_reason_184 : decode cX8_reason 184 = .ok (.iconst 0, 1) := by decide +kernel
theorem dX8_reason_185 : decode cX8_reason 185 = .ok (.ireturn, 1) := by decide +kernel
set_option maxRecDepth 20000 in
theorem ggX8_keeps_X8_of : GoodIn wsX8_keeps wsX8_of := goodIn_r _ [6, 1, 11, 12, 13, 14, 15, 16, 17, 18, 19, 20, 21, 22, 23, 24, 25, 26, 27, 28] (by decide +kernel) (by decide +kernel)
set_option maxRecDepth 20000 in
theorem gX8_keeps_X8_of : GoodIn wsX8_keeps (wsV RX8 43 RX8 yX8_of wsX8_of) := goodIn_app (goodIn_of _ (by decide +kernel)) ggX8_keeps_X8_of
set_option maxRecDepth 20000 in
theorem ggX8_keeps_X8_sky : GoodIn wsX8_keeps wsX8_sky := goodIn_r _ [10, 1, 11, 12, 13, 14, 15, 16, 17, 18, 19, 20, 21, 22, 23, 24, 25, 26, 27, 28] (by decide +kernel) (by decide +kernel)
set_option maxRecDepth 20000 in
theorem gX8_keeps_X8_sky : GoodIn wsX8_keeps (wsV RX8 47 RX8 yX8_sky wsX8_sky) := goodIn_app (goodIn_of _ (by decide +kernel)) ggX8_keeps_X8_sky
theorem dX8_keeps_0 : decode cX8_keeps 0 = .ok (.bipush 61, 2) := by decide +kernel
theorem dX8_keeps_2 : decode cX8_keeps 2 = .ok (.istore_n 3, 1) := by decide +kernel
theorem dX8_keeps_3 : decode cX8_keeps 3 = .ok (.iload_n 3, 1) := by decide +kernel
theorem dX8_keeps_4 : decode cX8_keeps 4 = .ok (.bipush 17, 2) := by decide +kernel
theorem dX8_keeps_6 : decode cX8_keeps 6 = .ok (.if_icmp .lt 23, 3) := by decide +kernel
theorem dX8_keeps_9 : decode cX8_keeps 9 = .ok (.aload_n 0, 1) := by decide +kernel
theorem dX8_keeps_10 : decode cX8_keeps 10 = .ok (.getfield 7, 3) := by decide +kernel
theorem dX8_keeps_13 : decode cX8_keeps 13 = .ok (.iload_n 3, 1) := by decide +kernel
theorem dX8_keeps_14 : decode cX8_keeps 14 = .ok (.aload_n 0, 1) := by decide +kernel
theorem dX8_keeps_15 : decode cX8_keeps 15 = .ok (.getfield 7, 3) := by decide +kernel
theorem dX8_keeps_18 : decode cX8_keeps 18 = .ok (.iload_n 3, 1) := by decide +kernel
theorem dX8_keeps_19 : decode cX8_keeps 19 = .ok (.iconst 5, 1) := by decide +kernel
theorem dX8_keeps_20 : decode cX8_keeps 20 = .ok (.isub, 1) := by decide +kernel
theorem dX8_keeps_21 : decode cX8_keeps 21 = .ok (.iaload, 1) := by decide +kernel
theorem dX8_keeps_22 : decode cX8_keeps 22 = .ok (.iastore, 1) := by decide +kernel
theorem dX8_keeps_23 : decode cX8_keeps 23 = .ok (.iinc 3 (-1), 3) := by decide +kernel
theorem dX8_keeps_26 : decode cX8_keeps 26 = .ok (.goto (-23), 3) := by decide +kernel
theorem dX8_keeps_29 : decode cX8_keeps 29 = .ok (.aload_n 0, 1) := by decide +kernel
theorem dX8_keeps_30 : decode cX8_keeps 30 = .ok (.getfield 7, 3) := by decide +kernel
theorem dX8_keeps_33 : decode cX8_keeps 33 = .ok (.bipush 12, 2) := by decide +kernel
theorem dX8_keeps_35 : decode cX8_keeps 35 = .ok (.iload_n 1, 1) := by decide +kernel
theorem dX8_keeps_36 : decode cX8_keeps 36 = .ok (.iastore, 1) := by decide +kernel
theorem dX8_keeps_37 : decode cX8_keeps 37 = .ok (.aload_n 0, 1) := by decide +kernel
theorem dX8_keeps_38 : decode cX8_keeps 38 = .ok (.getfield 7, 3) := by decide +kernel
theorem dX8_keeps_41 : decode cX8_keeps 41 = .ok (.bipush 13, 2) := by decide +kernel
theorem dX8_keeps_43 : decode cX8_keeps 43 = .ok (.aload_n 0, 1) := by decide +kernel
theorem dX8_keeps_44 : decode cX8_keeps 44 = .ok (.getfield 7, 3) := by decide +kernel
theorem dX8_keeps_47 : decode cX8_keeps 47 = .ok (.iconst 1, 1) := by decide +kernel
theorem dX8_keeps_48 : decode cX8_keeps 48 = .ok (.iaload, 1) := by decide +kernel
theorem dX8_keeps_49 : decode cX8_keeps 49 = .ok (.iastore, 1) := by decide +kernel
theorem dX8_keeps_50 : decode cX8_keeps 50 = .ok (.aload_n 0, 1) := by decide +kernel
theorem dX8_keeps_51 : decode cX8_keeps 51 = .ok (.getfield 7, 3) := by decide +kernel
theorem dX8_keeps_54 : decode cX8_keeps 54 = .ok (.bipush 14, 2) := by decide +kernel
theorem dX8_keeps_56 : decode cX8_keeps 56 = .ok (.iload_n 2, 1) := by decide +kernel
theorem dX8_keeps_57 : decode cX8_keeps 57 = .ok (.iastore, 1) := by decide +kernel
theorem dX8_keeps_58 : decode cX8_keeps 58 = .ok (.aload_n 0, 1) := by decide +kernel
theorem dX8_keeps_59 : decode cX8_keeps 59 = .ok (.getfield 7, 3) := by decide +kernel
theorem dX8_keeps_62 : decode cX8_keeps 62 = .ok (.bipush 15, 2) := by decide +kernel
theorem dX8_keeps_64 : decode cX8_keeps 64 = .ok (.aload_n 0, 1) := by decide +kernel
theorem dX8_keeps_65 : decode cX8_keeps 65 = .ok (.iload_n 1, 1) := by decide +kernel
theorem dX8_keeps_66 : decode cX8_keeps 66 = .ok (.iconst 0, 1) := by decide +kernel
theorem dX8_keeps_67 : decode cX8_keeps 67 = .ok (.invokevirtual 43, 3) := by decide +kernel
theorem dX8_keeps_70 : decode cX8_keeps 70 = .ok (.aload_n 0, 1) := by decide +kernel
theorem dX8_keeps_71 : decode cX8_keeps 71 = .ok (.aload_n 0, 1) := by decide +kernel
theorem dX8_keeps_72 : decode cX8_keeps 72 = .ok (.getfield 7, 3) := by decide +kernel
theorem dX8_keeps_75 : decode cX8_keeps 75 = .ok (.iconst 1, 1) := by decide +kernel
theorem dX8_keeps_76 : decode cX8_keeps 76 = .ok (.iaload, 1) := by decide +kernel
theorem dX8_keeps_77 : decode cX8_keeps 77 = .ok (.iconst 0, 1) := by decide +kernel
theorem dX8_keeps_78 : decode cX8_keeps 78 = .ok (.invokevirtual 47, 3) := by decide +kernel
theorem dX8_keeps_81 : decode cX8_keeps 81 = .ok (.isub, 1) := by decide +kernel
theorem dX8_keeps_82 : decode cX8_keeps 82 = .ok (.iastore, 1) := by decide +kernel
theorem dX8_keeps_83 : decode cX8_keeps 83 = .ok (.aload_n 0, 1) := by decide +kernel
theorem dX8_keeps_84 : decode cX8_keeps 84 = .ok (.getfield 7, 3) := by decide +kernel
theorem dX8_keeps_87 : decode cX8_keeps 87 = .ok (.bipush 16, 2) := by decide +kernel
theorem dX8_keeps_89 : decode cX8_keeps 89 = .ok (.aload_n 0, 1) := by decide +kernel
theorem dX8_keeps_90 : decode cX8_keeps 90 = .ok (.aload_n 0, 1) := by decide +kernel
theorem dX8_keeps_91 : decode cX8_keeps 91 = .ok (.getfield 7, 3) := by decide +kernel
theorem dX8_keeps_94 : decode cX8_keeps 94 = .ok (.iconst 1, 1) := by decide +kernel
theorem dX8_keeps_95 : decode cX8_keeps 95 = .ok (.iaload, 1) := by decide +kernel
theorem dX8_keeps_96 : decode cX8_keeps 96 = .ok (.iconst 1, 1) := by decide +kernel
theorem dX8_keeps_97 : decode cX8_keeps 97 = .ok (.invokevirtual 47, 3) := by decide +kernel
theorem dX8_keeps_100 : decode cX8_keeps 100 = .ok (.aload_n 0, 1) := by decide +kernel
theorem dX8_keeps_101 : decode cX8_keeps 101 = .ok (.iload_n 1, 1) := by decide +kernel
theorem dX8_keeps_102 : decode cX8_keeps 102 = .ok (.iconst 1, 1) := by decide +kernel
theorem dX8_keeps_103 : decode cX8_keeps 103 = .ok (.invokevirtual 43, 3) := by decide +kernel
theorem dX8_keeps_106 : decode cX8_keeps 106 = .ok (.isub, 1) := by decide +kernel
theorem dX8_keeps_107 : decode cX8_keeps 107 = .ok (.iastore, 1) := by decide +kernel
theorem dX8_keeps_108 : decode cX8_keeps 108 = .ok (.aload_n 0, 1) := by decide +kernel
theorem dX8_keeps_109 : decode cX8_keeps 109 = .ok (.getfield 7, 3) := by decide +kernel
theorem dX8_keeps_112 : decode cX8_keeps 112 = .ok (.bipush 11, 2) := by decide +kernel
theorem dX8_keeps_114 : decode cX8_keeps 114 = .ok (.dup2, 1) := by decide +kernel
theorem dX8_keeps_115 : decode cX8_keeps 115 = .ok (.iaload, 1) := by decide +kernel
theorem dX8_keeps_116 : decode cX8_keeps 116 = .ok (.aload_n 0, 1) := by decide +kernel
theorem dX8_keeps_117 : decode cX8_keeps 117 = .ok (.getfield 7, 3) := by decide +kernel
theorem dX8_keeps_120 : decode cX8_keeps 120 = .ok (.bipush 11, 2) := by decide +kernel
theorem dX8_keeps_122 : decode cX8_keeps 122 = .ok (.iaload, 1) := by decide +kernel
theorem dX8_keeps_123 : decode cX8_keeps 123 = .ok (.bipush 10, 2) := by decide +kernel
theorem dX8_keeps_125 : decode cX8_keeps 125 = .ok (.if_icmp .ge 7, 3) := by decide +kernel
theorem dX8_keeps_128 : decode cX8_keeps 128 = .ok (.iconst 1, 1) := by decide +kernel
theorem dX8_keeps_129 : decode cX8_keeps 129 = .ok (.goto 4, 3) := by decide +kernel
theorem dX8_keeps_132 : decode cX8_keeps 132 = .ok (.iconst 0, 1) := by decide +kernel
theorem dX8_keeps_133 : decode cX8_keeps 133 = .ok (.iadd, 1) := by decide +kernel
theorem dX8_keeps_134 : decode cX8_keeps 134 = .ok (.iastore, 1) := by decide +kernel
theorem dX8_keeps_135 : decode cX8_keeps 135 = .ok (.return_, 1) := by decide +kernel
set_option maxRecDepth 20000 in
theorem ggX8_flies_X8_isCard : GoodIn wsX8_flies wsX8_isCard := goodIn_r _ [8, 3, 9, 10, 7, 11, 40, 41, 42, 43, 44, 45, 46, 47, 48, 49, 50, 51, 52, 53, 54, 55, 56, 57] (by decide +kernel) (by decide +kernel)
set_option maxRecDepth 20000 in
theorem gX8_flies_X8_isCard : GoodIn wsX8_flies (wsV RX8 57 RX8 yX8_isCard wsX8_isCard) := goodIn_app (goodIn_of _ (by decide +kernel)) ggX8_flies_X8_isCard
set_option maxRecDepth 20000 in
theorem ggX8_flies_X8_in : GoodIn wsX8_flies wsX8_in := goodIn_r _ [11] (by decide +kernel) (by decide +kernel)
set_option maxRecDepth 20000 in
theorem gX8_flies_X8_in : GoodIn wsX8_flies (va_wsS RX8 31 yX8_in wsX8_in) := goodIn_app (goodIn_of _ (by decide +kernel)) ggX8_flies_X8_in
set_option maxRecDepth 20000 in
theorem ggX8_flies_X8_reason : GoodIn wsX8_flies wsX8_reason := goodIn_r _ [15, 3, 16, 17, 18, 7, 19, 20, 21, 22, 23, 24, 25, 26, 27, 28, 29, 30, 31, 40, 41, 42, 43, 44, 45, 46, 47, 48, 49, 50, 51, 52, 53, 54, 55, 56, 57] (by decide +kernel) (by decide +kernel)
set_option maxRecDepth 20000 in
theorem gX8_flies_X8_reason : GoodIn wsX8_flies (wsV RX8 60 RX8 yX8_reason wsX8_reason) := goodIn_app (goodIn_of _ (by decide +kernel)) ggX8_flies_X8_reason
set_option maxRecDepth 20000 in
theorem ggX8_flies_X8_keeps : GoodIn wsX8_flies wsX8_keeps := goodIn_r _ [35, 3, 16, 17, 18, 7, 19, 28, 29, 30, 31, 40, 41, 42, 43, 44, 45, 46, 47, 48, 49, 50, 51, 52, 53, 54, 55, 56, 57] (by decide +kernel) (by decide +kernel)
set_option maxRecDepth 20000 in
theorem gX8_flies_X8_keeps : GoodIn wsX8_flies (wsV RX8 64 RX8 yX8_keeps wsX8_keeps) := goodIn_app (goodIn_of _ (by decide +kernel)) ggX8_flies_X8_keeps
set_option maxRecDepth 20000 in
theorem ggX8_flies_X8_lays : GoodIn wsX8_flies wsX8_lays := goodIn_r _ [39, 3, 40, 41, 42, 43, 44, 45, 46, 47, 48, 49, 50, 51, 52, 53, 54, 55, 56, 57] (by decide +kernel) (by decide +kernel)
set_option maxRecDepth 20000 in
theorem gX8_flies_X8_lays : GoodIn wsX8_flies (wsV RX8 68 RX8 yX8_lays wsX8_lays) := goodIn_app (goodIn_of _ (by decide +kernel)) ggX8_flies_X8_lays
set_option maxRecDepth 20000 in
theorem ggX8_flies_X8_of : GoodIn wsX8_flies wsX8_of := goodIn_r _ [19, 3, 40, 41, 42, 43, 44, 45, 46, 47, 48, 49, 50, 51, 52, 53, 54, 55, 56, 57] (by decide +kernel) (by decide +kernel)
set_option maxRecDepth 20000 in
theorem gX8_flies_X8_of : GoodIn wsX8_flies (wsV RX8 43 RX8 yX8_of wsX8_of) := goodIn_app (goodIn_of _ (by decide +kernel)) ggX8_flies_X8_of
theorem dX8_flies_0 : decode cX8_flies 0 = .ok (.aload_n 0, 1) := by decide +kernel
theorem dX8_flies_1 : decode cX8_flies 1 = .ok (.iload_n 1, 1) := by decide +kernel
theorem dX8_flies_2 : decode cX8_flies 2 = .ok (.invokevirtual 57, 3) := by decide +kernel
theorem dX8_flies_5 : decode cX8_flies 5 = .ok (.ifCond .eq 12, 3) := by decide +kernel
theorem dX8_flies_8 : decode cX8_flies 8 = .ok (.iload_n 2, 1) := by decide +kernel
theorem dX8_flies_9 : decode cX8_flies 9 = .ok (.iconst 1, 1) := by decide +kernel
theorem dX8_flies_10 : decode cX8_flies 10 = .ok (.iconst 2, 1) := by decide +kernel
theorem dX8_flies_11 : decode cX8_flies 11 = .ok (.invokestatic 31, 3) := by decide +kernel
theorem dX8_flies_14 : decode cX8_flies 14 = .ok (.ifCond .ne 6, 3) := by decide +kernel
theorem dX8_flies_17 : decode cX8_flies 17 = .ok (.ldc 35, 2) := by decide +kernel
theorem dX8_flies_19 : decode cX8_flies 19 = .ok (.ireturn, 1) := by decide +kernel
theorem dX8_flies_20 : decode cX8_flies 20 = .ok (.aload_n 0, 1) := by decide +kernel
theorem dX8_flies_21 : decode cX8_flies 21 = .ok (.iload_n 1, 1) := by decide +kernel
theorem dX8_flies_22 : decode cX8_flies 22 = .ok (.iconst 0, 1) := by decide +kernel
theorem dX8_flies_23 : decode cX8_flies 23 = .ok (.invokevirtual 60, 3) := by decide +kernel
theorem dX8_flies_26 : decode cX8_flies 26 = .ok (.ifCond .eq 6, 3) := by decide +kernel
theorem dX8_flies_29 : decode cX8_flies 29 = .ok (.ldc 63, 2) := by decide +kernel
theorem dX8_flies_31 : decode cX8_flies 31 = .ok (.ireturn, 1) := by decide +kernel
theorem dX8_flies_32 : decode cX8_flies 32 = .ok (.aload_n 0, 1) := by decide +kernel
theorem dX8_flies_33 : decode cX8_flies 33 = .ok (.iload_n 1, 1) := by decide +kernel
theorem dX8_flies_34 : decode cX8_flies 34 = .ok (.iload_n 2, 1) := by decide +kernel
theorem dX8_flies_35 : decode cX8_flies 35 = .ok (.invokevirtual 64, 3) := by decide +kernel
theorem dX8_flies_38 : decode cX8_flies 38 = .ok (.aload_n 0, 1) := by decide +kernel
theorem dX8_flies_39 : decode cX8_flies 39 = .ok (.iload_n 1, 1) := by decide +kernel
theorem dX8_flies_40 : decode cX8_flies 40 = .ok (.bipush 6, 2) := by decide +kernel
theorem dX8_flies_42 : decode cX8_flies 42 = .ok (.iload_n 2, 1) := by decide +kernel
theorem dX8_flies_43 : decode cX8_flies 43 = .ok (.invokevirtual 68, 3) := by decide +kernel
theorem dX8_flies_46 : decode cX8_flies 46 = .ok (.aload_n 0, 1) := by decide +kernel
theorem dX8_flies_47 : decode cX8_flies 47 = .ok (.iload_n 1, 1) := by decide +kernel
theorem dX8_flies_48 : decode cX8_flies 48 = .ok (.bipush 7, 2) := by decide +kernel
theorem dX8_flies_50 : decode cX8_flies 50 = .ok (.aload_n 0, 1) := by decide +kernel
theorem dX8_flies_51 : decode cX8_flies 51 = .ok (.iload_n 1, 1) := by decide +kernel
theorem dX8_flies_52 : decode cX8_flies 52 = .ok (.bipush 7, 2) := by decide +kernel
theorem dX8_flies_54 : decode cX8_flies 54 = .ok (.invokevirtual 43, 3) := by decide +kernel
theorem dX8_flies_57 : decode cX8_flies 57 = .ok (.iconst 1, 1) := by decide +kernel
theorem dX8_flies_58 : decode cX8_flies 58 = .ok (.iadd, 1) := by decide +kernel
theorem dX8_flies_59 : decode cX8_flies 59 = .ok (.invokevirtual 68, 3) := by decide +kernel
theorem dX8_flies_62 : decode cX8_flies 62 = .ok (.aload_n 0, 1) := by decide +kernel
theorem dX8_flies_63 : decode cX8_flies 63 = .ok (.getfield 7, 3) := by decide +kernel
theorem dX8_flies_66 : decode cX8_flies 66 = .ok (.iconst 2, 1) := by decide +kernel
theorem dX8_flies_67 : decode cX8_flies 67 = .ok (.dup2, 1) := by decide +kernel
theorem dX8_flies_68 : decode cX8_flies 68 = .ok (.iaload, 1) := by decide +kernel
theorem dX8_flies_69 : decode cX8_flies 69 = .ok (.iconst 1, 1) := by decide +kernel
theorem dX8_flies_70 : decode cX8_flies 70 = .ok (.iadd, 1) := by decide +kernel
theorem dX8_flies_71 : decode cX8_flies 71 = .ok (.iastore, 1) := by decide +kernel
theorem dX8_flies_72 : decode cX8_flies 72 = .ok (.aload_n 0, 1) := by decide +kernel
theorem dX8_flies_73 : decode cX8_flies 73 = .ok (.getfield 7, 3) := by decide +kernel
theorem dX8_flies_76 : decode cX8_flies 76 = .ok (.iconst 3, 1) := by decide +kernel
theorem dX8_flies_77 : decode cX8_flies 77 = .ok (.dup2, 1) := by decide +kernel
theorem dX8_flies_78 : decode cX8_flies 78 = .ok (.iaload, 1) := by decide +kernel
theorem dX8_flies_79 : decode cX8_flies 79 = .ok (.aload_n 0, 1) := by decide +kernel
theorem dX8_flies_80 : decode cX8_flies 80 = .ok (.iload_n 1, 1) := by decide +kernel
theorem dX8_flies_81 : decode cX8_flies 81 = .ok (.iconst 3, 1) := by decide +kernel
theorem dX8_flies_82 : decode cX8_flies 82 = .ok (.invokevirtual 43, 3) := by decide +kernel
theorem dX8_flies_85 : decode cX8_flies 85 = .ok (.iadd, 1) := by decide +kernel
theorem dX8_flies_86 : decode cX8_flies 86 = .ok (.iastore, 1) := by decide +kernel
theorem dX8_flies_87 : decode cX8_flies 87 = .ok (.aload_n 0, 1) := by decide +kernel
theorem dX8_flies_88 : decode cX8_flies 88 = .ok (.getfield 7, 3) := by decide +kernel
theorem dX8_flies_91 : decode cX8_flies 91 = .ok (.iconst 4, 1) := by decide +kernel
theorem dX8_flies_92 : decode cX8_flies 92 = .ok (.dup2, 1) := by decide +kernel
theorem dX8_flies_93 : decode cX8_flies 93 = .ok (.iaload, 1) := by decide +kernel
theorem dX8_flies_94 : decode cX8_flies 94 = .ok (.aload_n 0, 1) := by decide +kernel
theorem dX8_flies_95 : decode cX8_flies 95 = .ok (.iload_n 1, 1) := by decide +kernel
theorem dX8_flies_96 : decode cX8_flies 96 = .ok (.iconst 4, 1) := by decide +kernel
theorem dX8_flies_97 : decode cX8_flies 97 = .ok (.invokevirtual 43, 3) := by decide +kernel
theorem dX8_flies_100 : decode cX8_flies 100 = .ok (.iadd, 1) := by decide +kernel
theorem dX8_flies_101 : decode cX8_flies 101 = .ok (.iastore, 1) := by decide +kernel
theorem dX8_flies_102 : decode cX8_flies 102 = .ok (.aload_n 0, 1) := by decide +kernel
theorem dX8_flies_103 : decode cX8_flies 103 = .ok (.getfield 7, 3) := by decide +kernel
theorem dX8_flies_106 : decode cX8_flies 106 = .ok (.iconst 5, 1) := by decide +kernel
theorem dX8_flies_107 : decode cX8_flies 107 = .ok (.dup2, 1) := by decide +kernel
theorem dX8_flies_108 : decode cX8_flies 108 = .ok (.iaload, 1) := by decide +kernel
theorem dX8_flies_109 : decode cX8_flies 109 = .ok (.iconst 1, 1) := by decide +kernel
theorem dX8_flies_110 : decode cX8_flies 110 = .ok (.iadd, 1) := by decide +kernel
theorem dX8_flies_111 : decode cX8_flies 111 = .ok (.iastore, 1) := by decide +kernel
theorem dX8_flies_112 : decode cX8_flies 112 = .ok (.aload_n 0, 1) := by decide +kernel
theorem dX8_flies_113 : decode cX8_flies 113 = .ok (.getfield 7, 3) := by decide +kernel
theorem dX8_flies_116 : decode cX8_flies 116 = .ok (.bipush 6, 2) := by decide +kernel
theorem dX8_flies_118 : decode cX8_flies 118 = .ok (.dup2, 1) := by decide +kernel
theorem dX8_flies_119 : decode cX8_flies 119 = .ok (.iaload, 1) := by decide +kernel
theorem dX8_flies_120 : decode cX8_flies 120 = .ok (.iload_n 2, 1) := by decide +kernel
theorem dX8_flies_121 : decode cX8_flies 121 = .ok (.iconst 2, 1) := by decide +kernel
theorem dX8_flies_122 : decode cX8_flies 122 = .ok (.if_icmp .ne 7, 3) := by decide +kernel
theorem dX8_flies_125 : decode cX8_flies 125 = .ok (.iconst 1, 1) := by decide +kernel
theorem dX8_flies_126 : decode cX8_flies 126 = .ok (.goto 4, 3) := by decide +kernel
theorem dX8_flies_129 : decode cX8_flies 129 = .ok (.iconst 0, 1) := by decide +kernel
theorem dX8_flies_130 : decode cX8_flies 130 = .ok (.iadd, 1) := by decide +kernel
theorem dX8_flies_131 : decode cX8_flies 131 = .ok (.iastore, 1) := by decide +kernel
theorem dX8_flies_132 : decode cX8_flies 132 = .ok (.aload_n 0, 1) := by decide +kernel
theorem dX8_flies_133 : decode cX8_flies 133 = .ok (.getfield 7, 3) := by decide +kernel
theorem dX8_flies_136 : decode cX8_flies 136 = .ok (.bipush 7, 2) := by decide +kernel
theorem dX8_flies_138 : decode cX8_flies 138 = .ok (.dup2, 1) := by decide +kernel
theorem dX8_flies_139 : decode cX8_flies 139 = .ok (.iaload, 1) := by decide +kernel
theorem dX8_flies_140 : decode cX8_flies 140 = .ok (.aload_n 0, 1) := by decide +kernel
theorem dX8_flies_141 : decode cX8_flies 141 = .ok (.iload_n 1, 1) := by decide +kernel
theorem dX8_flies_142 : decode cX8_flies 142 = .ok (.iconst 4, 1) := by decide +kernel
theorem dX8_flies_143 : decode cX8_flies 143 = .ok (.invokevirtual 43, 3) := by decide +kernel
theorem dX8_flies_146 : decode cX8_flies 146 = .ok (.iadd, 1) := by decide +kernel
theorem dX8_flies_147 : decode cX8_flies 147 = .ok (.iastore, 1) := by decide +kernel
theorem dX8_flies_148 : decode cX8_flies 148 = .ok (.aload_n 0, 1) := by decide +kernel
theorem dX8_flies_149 : decode cX8_flies 149 = .ok (.getfield 7, 3) := by decide +kernel
theorem dX8_flies_152 : decode cX8_flies 152 = .ok (.iconst 2, 1) := by decide +kernel
theorem dX8_flies_153 : decode cX8_flies 153 = .ok (.iaload, 1) := by decide +kernel
theorem dX8_flies_154 : decode cX8_flies 154 = .ok (.ireturn, 1) := by decide +kernel
theorem dX8_goesTo_0 : decode cX8_goesTo 0 = .ok (.aload_n 0, 1) := by decide +kernel
theorem dX8_goesTo_1 : decode cX8_goesTo 1 = .ok (.getfield 7, 3) := by decide +kernel
theorem dX8_goesTo_4 : decode cX8_goesTo 4 = .ok (.iconst 4, 1) := by decide +kernel
theorem dX8_goesTo_5 : decode cX8_goesTo 5 = .ok (.iload_n 1, 1) := by decide +kernel
theorem dX8_goesTo_6 : decode cX8_goesTo 6 = .ok (.bipush 7, 2) := by decide +kernel
